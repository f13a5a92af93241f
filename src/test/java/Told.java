import java.io.IOException;
import java.lang.reflect.InvocationTargetException;
import java.lang.reflect.Method;
import java.nio.file.Files;
import java.nio.file.Path;
import java.util.HashMap;
import java.util.Map;
import java.util.Set;

/**
 * Sentences of the document, each with a run of calls that would answer otherwise if it did not hold.
 * A call a line: "move 0 2 1 true = 999999999"; behind the "=" stands the answer, or "refused",
 * "no-such-one", "bad-argument". An empty line begins a new desk.
 */
final class Told {
    private static final Path DOCUMENT = Path.of("../shared/DOC.md");
    private static final int DESCRIPTION = 0;
    private static final int MOST_CALLS = 512;
    // In the digest's sum three values follow that of house(1).
    private static final long ONE_REFUSAL = 31L * 31 * 31;
    private static final Set<String> ONLY_ASKING = Set.of("seconds", "orderOffset", "ofMoment", "millis",
        "orderMoment", "isMoment", "ofDate", "orderDate", "isDate", "ofClock", "orderClock", "isClock",
        "house", "isSound", "digest");
    private static final Map<String, Method> METHODS = new HashMap<>();

    static {
        for (Method method : Momentdesk.class.getMethods()) {
            METHODS.put(method.getName(), method);
        }
    }

    private final String label;
    private Momentdesk desk;
    private int asked;

    private Told(String label) {
        this.label = label;
    }

    /** A sentence of what stands ahead of the promises. */
    static void description(String sentence, String calls) {
        promise(DESCRIPTION, sentence, calls);
    }

    /** A sentence of a promise's own chapter. */
    static void promise(int number, String sentence, String calls) {
        Due.is("the document says: " + number + ": " + sentence, true, chapter(number).contains(sentence));
        Told run = new Told(number + ": " + sentence);
        for (String desk : calls.split("\n\n")) {
            run.onNewDesk(desk);
        }
    }

    /** The chapter of a promise, its line breaks and marks of code taken off. */
    static String chapter(int number) {
        try {
            String text = Files.readString(DOCUMENT);
            String[] chapters = text.split("\n## (?=Promise \\d+:|Not promised)");
            return chapters[number].replace("`", "").replaceAll("\\s+", " ");
        } catch (IOException thrown) {
            throw new IllegalStateException(thrown);
        }
    }

    static Object answerOf(Momentdesk desk, String name, Object... arguments) {
        try {
            return METHODS.get(name).invoke(desk, arguments);
        } catch (InvocationTargetException thrown) {
            return thrown.getCause().getClass();
        } catch (IllegalAccessException thrown) {
            throw new IllegalStateException(thrown);
        }
    }

    private void onNewDesk(String calls) {
        desk = new Momentdesk();
        asked = 0;
        for (String line : calls.strip().split("\n")) {
            String[] sides = line.strip().split(" = ");
            String[] words = sides[0].split(" ");
            call(line.strip(), words[0], arguments(words), sides[1]);
        }
        // The document promises nothing of later calls.
        Due.is(label + ": so many calls of one desk", true, asked <= MOST_CALLS);
    }

    private static Object[] arguments(String[] words) {
        Class<?>[] types = METHODS.get(words[0]).getParameterTypes();
        Object[] arguments = new Object[types.length];
        for (int n = 0; n < types.length; n++) {
            if (types[n] == boolean.class) {
                arguments[n] = Boolean.valueOf(words[n + 1]);
            } else {
                arguments[n] = Integer.valueOf(words[n + 1]);
            }
        }
        return arguments;
    }

    private void call(String line, String name, Object[] arguments, String due) {
        long before = desk.digest();
        int refusalsBefore = desk.house(1);
        Object got = answerOf(desk, name, arguments);
        boolean isRefused = due.equals("refused");
        Due.is(label + ": " + line, wanted(due), got instanceof Class ? got : String.valueOf(got));
        Due.is(label + ": " + line + ": how often REFUSED was told", refusalsBefore + (isRefused ? 1 : 0), desk.house(1));
        if (isRefused || got instanceof Class || ONLY_ASKING.contains(name)) {
            Due.is(label + ": " + line + ": nothing changes", before + (isRefused ? ONE_REFUSAL : 0), desk.digest());
        }
        asked += 5;
    }

    private static Object wanted(String due) {
        switch (due) {
            case "refused": return String.valueOf(Due.REFUSED);
            case "no-such-one": return Due.NO_SUCH_ONE;
            case "bad-argument": return Due.BAD_ARGUMENT;
            default: return due;
        }
    }
}
