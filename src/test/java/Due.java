import java.util.ArrayList;
import java.util.List;

/** Counts the answers of a test that are not as due, and ends it. */
final class Due {
    static final int REFUSED = -9;
    static final Class<?> NO_SUCH_ONE = IndexOutOfBoundsException.class;
    static final Class<?> BAD_ARGUMENT = IllegalArgumentException.class;

    interface Call {
        Object ask();
    }

    private static int asked;
    private static int wrong;

    private Due() {
    }

    /** The answer of a call, or the class of what it threw. */
    static Object answerOf(Call call) {
        try {
            return call.ask();
        } catch (RuntimeException thrown) {
            return thrown.getClass();
        }
    }

    static void is(String what, Object want, Object got) {
        asked++;
        if (!want.equals(got)) {
            wrong++;
            System.out.println(what + ": answered " + got + ", due is " + want);
        }
    }

    static void answers(String what, Object want, Call call) {
        is(what, want, answerOf(call));
    }

    /** A call that throws changes nothing. */
    static void throwsIt(String what, Momentdesk desk, Class<?> want, Call call) {
        List<Object> before = stateOf(desk);
        is(what, want, answerOf(call));
        is(what + ", the state then", before, stateOf(desk));
    }

    /** A call that is refused changes nothing but how often that was told. */
    static void refuses(String what, Momentdesk desk, Call call) {
        List<Object> before = stateOf(desk);
        before.set(0, desk.house(1) + 1);
        is(what, REFUSED, answerOf(call));
        is(what + ", the state then", before, stateOf(desk));
    }

    /** A call that only asks changes nothing. */
    static void asks(String what, Momentdesk desk, Object want, Call call) {
        List<Object> before = stateOf(desk);
        is(what, want, answerOf(call));
        is(what + ", the state then", before, stateOf(desk));
    }

    static List<Object> stateOf(Momentdesk desk) {
        List<Object> state = new ArrayList<>();
        state.add(desk.house(1));
        state.add(desk.house(0));
        for (int n = 0; n < 4; n++) {
            state.add(desk.seconds(n));
            state.add(desk.ofMoment(n, false));
            state.add(desk.ofMoment(n, true));
            for (int what = 0; what <= 12; what++) {
                state.add(desk.ofDate(n, what));
            }
        }
        for (int n = 0; n < 3; n++) {
            for (int what = 0; what <= 5; what++) {
                state.add(desk.ofClock(n, what));
            }
        }
        return state;
    }

    static void end() {
        System.out.println(asked + " answers, " + wrong + " of them not as due");
        if (wrong != 0 || asked == 0) {
            System.exit(1);
        }
    }
}
