import java.io.IOException;
import java.nio.file.Files;
import java.nio.file.Path;
import java.util.List;
import java.util.Set;
import java.util.TreeSet;
import java.util.regex.Matcher;
import java.util.regex.Pattern;

/** Those rules of LANGUAGE.md that can be read off the text of the class. */
public final class LanguageTest {
    private static final Set<String> LIBRARY = Set.of("Math.floorDiv", "Math.floorMod", "Math.min", "Math.abs");
    private static final Set<String> EXCEPTIONS = Set.of("IndexOutOfBoundsException", "IllegalArgumentException");

    public static void main(String[] args) throws IOException {
        String text = Files.readString(Path.of("src/main/java/Momentdesk.java"));
        String code = text.replaceAll("(?s)/\\*.*?\\*/", "").replaceAll("//[^\n]*", "").replaceAll("\"[^\"]*\"", "\"\"");
        Due.is("signs 1 to 127 alone", true, text.chars().allMatch(sign -> sign >= 1 && sign <= 127));
        Due.is("no such words", Set.of(), found(code, "\\b(import|package|try|catch|finally|synchronized|assert|protected"
            + "|volatile|transient|native|instanceof|double|float|equals|hashCode|var|yield|this|super|static \\{)\\b"));
        Due.is("no lambda, no method reference, no annotation, no joining by +", Set.of(), found(code, "->|::|@|\"\" *\\+|\\+ *\"\""));
        Due.is("the library", true, LIBRARY.containsAll(found(code, "\\b(?:Math|Integer|Long|Arrays|System|List|String)\\.\\w+")));
        Set<String> thrown = found(code, "throw new \\w+");
        thrown.removeIf(each -> EXCEPTIONS.contains(each.substring("throw new ".length())));
        Due.is("the exceptions", Set.of(), thrown);
        Due.is("no number is a divisor that is not written out", Set.of(), found(code, "[/%] *[a-z(]\\w*"));
        Due.is("no method is longer than sixty lines", Set.of(), longMethods(text.lines().toList()));
        Due.end();
    }

    private static Set<String> found(String code, String pattern) {
        Set<String> all = new TreeSet<>();
        Matcher matcher = Pattern.compile(pattern).matcher(code);
        while (matcher.find()) {
            all.add(matcher.group());
        }
        return all;
    }

    /** A method begins with a line of its head and ends with a brace that stands as far in as that. */
    private static Set<String> longMethods(List<String> lines) {
        Set<String> all = new TreeSet<>();
        for (int begin = 0; begin < lines.size(); begin++) {
            Matcher head = Pattern.compile("( {4}| {8})(public|private|static|int|long|void|boolean) [^=;]*\\(.*[^;]")
                .matcher(lines.get(begin));
            if (head.matches()) {
                int length = lines.subList(begin, lines.size()).indexOf(head.group(1) + "}") + 1;
                if (length < 3 || length > 60) {
                    all.add(head.group());
                }
            }
        }
        return all;
    }
}
