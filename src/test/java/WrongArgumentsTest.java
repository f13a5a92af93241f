import java.util.ArrayList;
import java.util.Arrays;
import java.util.List;

/**
 * Each call of the face with each mixture of right and wrong arguments, the least and the most of each
 * among them: it throws what the document names first, changes nothing then, and else throws nothing.
 */
public final class WrongArgumentsTest {
    // From promise 2 on, each by its number. An argument is an index below a count (#4), a number within
    // limits (0..9999), any int (int) or a boolean.
    private static final String[] CALLS = {
        "offset #4 -64800..64800", "offsetOf #4 int int int", "seconds #4", "orderOffset #4 #4",
        "moment #4 int int", "milli #4 int int", "move #4 0..2 int boolean", "momentOf #4 #4",
        "ofMoment #4 boolean", "millis #4", "orderMoment #4 #4", "isMoment #4 #4 0..2", "copyMoment #4 #4",
        "date #4 int 0..9999 0..86399 0..999999999 #4", "dateOf #4 #4 #4", "moveDate #4 0..7 int boolean",
        "set #4 0..7 int", "anew #4 #4 boolean", "copy #4 #4", "ofDate #4 0..12", "orderDate #4 #4",
        "isDate #4 #4 0..3", "clock #3 0..86399 0..999999999 #4", "clockOf #3 #4", "strike #4 #3",
        "moveClock #3 4..7 int boolean", "anewClock #3 #4 boolean", "copyClock #3 #3", "ofClock #3 0..5",
        "orderClock #3 #3", "isClock #3 #3 0..3", "knock", "house 0..3", "isSound", "digest"};
    private static final int CALLS_OF_A_DESK = 100;

    private static Momentdesk desk;
    private static int asked;

    public static void main(String[] args) {
        String head = Told.chapter(0);
        Due.is("exceptions that change nothing", true, head.contains("A method that throws an exception changes nothing."));
        Due.is("the order of exceptions", true, head.contains(
            "If several exceptions apply, the one that is named first is thrown; exceptions go ahead of REFUSED."));
        for (int n = 0; n < CALLS.length; n++) {
            String[] words = CALLS[n].split(" ");
            compareWithDocument(words, Told.chapter(n + 2));
            mix(words, new Object[words.length - 1], 0);
        }
        Due.end();
    }

    private static void compareWithDocument(String[] words, String chapter) {
        List<String> kinds = Arrays.asList(words).subList(1, words.length);
        boolean hasIndex = kinds.stream().anyMatch(kind -> kind.startsWith("#"));
        boolean hasLimits = kinds.stream().anyMatch(kind -> kind.contains(".."));
        Due.is(words[0] + " has this chapter", true, chapter.contains(" " + words[0] + "("));
        Due.is(words[0] + ": no such one", hasIndex, chapter.contains("Throws IndexOutOfBoundsException"));
        Due.is(words[0] + ": bad argument", hasLimits, chapter.contains("Throws IllegalArgumentException"));
        for (String kind : kinds) {
            if (kind.contains("..")) {
                Due.is(words[0] + " " + kind, true, chapter.contains("not " + least(kind) + " to " + most(kind)));
            }
        }
    }

    private static void mix(String[] words, Object[] arguments, int begin) {
        if (begin == arguments.length) {
            ask(words, arguments);
            return;
        }
        for (Object each : some(words[begin + 1])) {
            arguments[begin] = each;
            mix(words, arguments, begin + 1);
        }
    }

    private static Object[] some(String kind) {
        switch (kind) {
            case "boolean": return new Object[] {false, true};
            // One that most calls can do, the others those that they refuse.
            case "int": return new Object[] {2000, Integer.MIN_VALUE, Integer.MAX_VALUE};
            default:
                int least = least(kind);
                int most = most(kind);
                return new Object[] {least, most, least - 1, most + 1, Integer.MIN_VALUE, Integer.MAX_VALUE};
        }
    }

    private static int least(String kind) {
        return kind.startsWith("#") ? 0 : Integer.parseInt(kind.split("\\.\\.")[0]);
    }

    private static int most(String kind) {
        return kind.startsWith("#") ? Integer.parseInt(kind.substring(1)) - 1 : Integer.parseInt(kind.split("\\.\\.")[1]);
    }

    private static void ask(String[] words, Object[] arguments) {
        if (asked % CALLS_OF_A_DESK == 0) {
            desk = fullDesk();
        }
        asked++;
        long before = desk.digest();
        Object got = Told.answerOf(desk, words[0], arguments);
        Class<?> want = wanted(words, arguments);
        String what = words[0] + Arrays.toString(arguments);
        Due.is(what + " throws", String.valueOf(want), got instanceof Class ? got.toString() : "null");
        if (want != null) {
            Due.is(what + " changes", before, desk.digest());
        }
    }

    private static Class<?> wanted(String[] words, Object[] arguments) {
        List<Class<?>> thrown = new ArrayList<>();
        for (int n = 0; n < arguments.length; n++) {
            String kind = words[n + 1];
            boolean isFree = kind.equals("int") || kind.equals("boolean");
            if (!isFree && ((int) arguments[n] < least(kind) || (int) arguments[n] > most(kind))) {
                thrown.add(kind.startsWith("#") ? Due.NO_SUCH_ONE : Due.BAD_ARGUMENT);
            }
        }
        return thrown.contains(Due.NO_SUCH_ONE) ? Due.NO_SUCH_ONE : thrown.isEmpty() ? null : Due.BAD_ARGUMENT;
    }

    /** A desk at its limits, so that many a call of it is refused. */
    private static Momentdesk fullDesk() {
        Momentdesk made = new Momentdesk();
        made.offset(0, 64800);
        made.offset(1, -64800);
        made.moment(0, 1800000000, 999999999);
        made.moment(3, -1800000000, 0);
        made.date(0, 2030, 1231, 86399, 999999999, 1);
        made.date(3, 1910, 101, 0, 0, 0);
        made.clock(0, 86399, 999999999, 1);
        made.clock(2, 0, 0, 0);
        return made;
    }
}
