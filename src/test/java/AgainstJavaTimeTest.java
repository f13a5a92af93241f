import java.lang.reflect.InvocationTargetException;
import java.lang.reflect.Method;
import java.util.Arrays;
import java.util.Random;

/** Random runs of calls (of a fixed seed), each answered by Momentdesk and by ReferenceDesk. */
public final class AgainstJavaTimeTest {
    private static final int RUNS = 1500;
    private static final int CALLS = 512;
    private static final int DIGEST_EACH = 8;
    private static final Random RANDOM = new Random(20261118);

    // A method's name, then what each argument is: see argument().
    private static final String[] METHODS = {"offset o s", "offsetOf o h x x", "seconds o", "orderOffset o o",
        "moment m S n", "milli m S n", "move m 3 a b", "momentOf m m", "ofMoment m b", "millis m",
        "orderMoment m m", "isMoment m m 3", "copyMoment m m", "date m y d t N o", "dateOf m m o",
        "moveDate m 8 a b", "set m 8 f", "anew m o b", "copy m m", "ofDate m 13", "orderDate m m",
        "isDate m m 4", "clock c t N o", "clockOf c m", "strike m c", "moveClock c 8 a b", "anewClock c o b",
        "copyClock c c", "ofClock c 6", "orderClock c c", "isClock c c 4", "knock", "house 4", "isSound", "digest"};

    public static void main(String[] args) {
        for (int run = 0; run < RUNS; run++) {
            run(run);
        }
        Due.end();
    }

    private static void run(int run) {
        Momentdesk desk = new Momentdesk();
        ReferenceDesk reference = new ReferenceDesk();
        for (int call = 0; call < CALLS; call++) {
            String[] words = METHODS[RANDOM.nextInt(METHODS.length)].split(" ");
            Object[] arguments = new Object[words.length - 1];
            for (int n = 0; n < arguments.length; n++) {
                arguments[n] = argument(words[n + 1]);
            }
            Object want = answerOf(reference, words[0], arguments);
            Object got = answerOf(desk, words[0], arguments);
            String what = "run " + run + ", call " + call + ", " + words[0] + Arrays.toString(arguments);
            Due.is(what, want, got);
            if (call % DIGEST_EACH == DIGEST_EACH - 1) {
                Due.is(what + ", the digest then", reference.digest(), desk.digest());
            }
        }
    }

    private static Object answerOf(Object desk, String name, Object[] arguments) {
        for (Method method : desk.getClass().getMethods()) {
            if (method.getName().equals(name) && method.getParameterCount() == arguments.length) {
                try {
                    return method.invoke(desk, arguments);
                } catch (InvocationTargetException thrown) {
                    return thrown.getCause().getClass();
                } catch (IllegalAccessException thrown) {
                    throw new IllegalStateException(thrown);
                }
            }
        }
        throw new IllegalStateException(name);
    }

    private static Object argument(String kind) {
        switch (kind) {
            case "o": case "m": return index(4);
            case "c": return index(3);
            case "b": return RANDOM.nextBoolean();
            case "s": return one(near(0), within(64800), near(64800), near(-64800), any());
            case "h": return one(near(0), within(18), near(18), near(-18));
            case "x": return one(0, 0, near(0), within(59), near(59), near(-59));
            case "S": return one(near(0), within(1800000000), near(1800000000), near(-1800000000), any());
            case "n": return one(0, near(0), any(), near(1000000000), near(-1000000000), near(1000));
            case "N": return one(0, 0, within(999999999), 999999999, near(1000000000), near(0));
            case "a": return one(near(0), near(0), near(0), within(13), within(400), within(90000), any(), any());
            case "y": return one(1910, 2030, near(1910), near(2030), 1910 + RANDOM.nextInt(121), 1968 + RANDOM.nextInt(5), any());
            case "d": return one(day(), day(), day(), 101, 1231, 228, 229, 131, 1223, RANDOM.nextInt(1400), near(0), near(9999));
            case "t": return one(0, 86399, RANDOM.nextInt(86400), RANDOM.nextInt(86400), near(0), near(86399));
            case "f": return one(RANDOM.nextInt(13), RANDOM.nextInt(32), RANDOM.nextInt(61), RANDOM.nextInt(368),
                1909 + RANDOM.nextInt(123), 1968 + RANDOM.nextInt(60), within(1000000000), near(1000000000), any());
            default: return index(Integer.parseInt(kind));
        }
    }

    private static int one(int... some) {
        return some[RANDOM.nextInt(some.length)];
    }

    private static int index(int count) {
        return RANDOM.nextInt(25) == 0 ? one(-1, count, Integer.MIN_VALUE, Integer.MAX_VALUE) : RANDOM.nextInt(count);
    }

    private static int day() {
        return (1 + RANDOM.nextInt(12)) * 100 + 1 + RANDOM.nextInt(31);
    }

    private static int near(int number) {
        return number - 3 + RANDOM.nextInt(7);
    }

    private static int within(int most) {
        return one(-1, 1) * RANDOM.nextInt(most + 1);
    }

    private static int any() {
        return one(RANDOM.nextInt(), Integer.MIN_VALUE, Integer.MAX_VALUE, Integer.MIN_VALUE + 1, RANDOM.nextInt() >> RANDOM.nextInt(31));
    }
}
