import java.io.File;
import java.io.IOException;
import java.lang.reflect.Method;
import java.lang.reflect.Modifier;
import java.nio.file.Files;
import java.nio.file.Path;
import java.util.ArrayList;
import java.util.List;
import java.util.Set;
import java.util.TreeSet;
import java.util.regex.Matcher;
import java.util.regex.Pattern;
import java.util.stream.Stream;

/** README.md holds: its example answers what stands behind its lines, and its tables name each call and test. */
public final class ReadmeTest {
    private static final Path CLASS_FILE = Path.of("src/main/java/Momentdesk.java");

    public static void main(String[] args) throws IOException, InterruptedException {
        String page = Files.readString(Path.of("README.md"));
        example(page);
        calls(page);
        tests(page);
        Due.end();
    }

    private static void example(String page) throws IOException, InterruptedException {
        String example = blocks(page, "java").get(0);
        List<String> due = found(example, "(?m)println\\(.*\\); *// ([^:\n]+)");
        Due.is("the example's answers are told", true, due.size() > 10);
        Due.is("the example", due, printed(example, blocks(page, "sh").get(0)));
    }

    /** What the page's own commands print, in a directory that is laid out as the project's. */
    private static List<String> printed(String example, String commands) throws IOException, InterruptedException {
        Path root = Files.createTempDirectory("readme");
        try {
            Files.createDirectories(root.resolve(CLASS_FILE).getParent());
            Files.copy(CLASS_FILE, root.resolve(CLASS_FILE));
            Files.writeString(root.resolve("Example.java"), example);
            List<String> lines = new ArrayList<>();
            for (String command : commands.strip().split("\n")) {
                Process process = new ProcessBuilder(command.split(" "))
                    .directory(root.toFile()).redirectError(ProcessBuilder.Redirect.INHERIT).start();
                lines.addAll(new String(process.getInputStream().readAllBytes()).lines().toList());
                Due.is(command, 0, process.waitFor());
            }
            return lines;
        } finally {
            delete(root.toFile());
        }
    }

    private static void delete(File file) {
        File[] inside = file.listFiles();
        if (inside != null) {
            for (File each : inside) {
                delete(each);
            }
        }
        file.delete();
    }

    private static void calls(String page) {
        Set<String> named = new TreeSet<>(found(String.join("\n", found(page, "(?m)^(\\| (?:[A-Z]+ 0|the desk).*)$")), "`(\\w+)`"));
        Set<String> built = new TreeSet<>();
        for (Method method : Momentdesk.class.getDeclaredMethods()) {
            if (Modifier.isPublic(method.getModifiers())) {
                built.add(method.getName());
            }
        }
        Due.is("the calls in the table", built, named);
    }

    private static void tests(String page) throws IOException {
        Set<String> built = new TreeSet<>();
        try (Stream<Path> files = Files.list(Path.of("src/test/java"))) {
            files.map(file -> file.getFileName().toString()).filter(name -> name.endsWith("Test.java"))
                .forEach(name -> built.add(name.substring(0, name.length() - ".java".length())));
        }
        Due.is("the tests in the table", built, new TreeSet<>(found(page, "(?m)^\\| `(\\w+)` \\|")));
    }

    private static List<String> blocks(String page, String kind) {
        return found(page, "(?s)```" + kind + "\n(.*?)```");
    }

    /** What stands in the pattern's group, each time that it is found. */
    private static List<String> found(String text, String pattern) {
        List<String> all = new ArrayList<>();
        Matcher matcher = Pattern.compile(pattern).matcher(text);
        while (matcher.find()) {
            all.add(matcher.group(1).strip());
        }
        return all;
    }
}
