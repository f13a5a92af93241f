import java.io.IOException;
import java.lang.reflect.Constructor;
import java.lang.reflect.Field;
import java.lang.reflect.Method;
import java.lang.reflect.Modifier;
import java.nio.file.Files;
import java.nio.file.Path;
import java.util.HashSet;
import java.util.Set;
import java.util.TreeSet;

/** The face is that of the document, and nothing else is to be seen of the class. */
public final class FaceTest {
    public static void main(String[] args) throws IOException {
        Set<String> told = toldFace();
        Due.is("the document tells 35 methods and a constructor", 36, told.size());
        Due.is("the face", told, builtFace());
        Due.is("public and final", Modifier.PUBLIC | Modifier.FINAL, Momentdesk.class.getModifiers());
        otherMembers();
        Due.end();
    }

    /** The document's lines without the names of the parameters. */
    private static Set<String> toldFace() throws IOException {
        Set<String> face = new TreeSet<>();
        for (String line : Files.readAllLines(Path.of("../shared/DOC.md"))) {
            if (line.startsWith("    public ")) {
                face.add(line.trim().replaceAll("(int|boolean|long|String) \\w+(?=[,)])", "$1"));
            }
        }
        return face;
    }

    private static Set<String> builtFace() {
        Set<String> face = new TreeSet<>();
        for (Method method : Momentdesk.class.getDeclaredMethods()) {
            if (Modifier.isPublic(method.getModifiers())) {
                face.add(Modifier.toString(method.getModifiers()) + " " + method.getReturnType().getSimpleName() + " "
                    + method.getName() + namesOf(method.getParameterTypes(), "(", ")")
                    + thrownBy(method.getExceptionTypes()) + ";");
            }
        }
        for (Constructor<?> made : Momentdesk.class.getDeclaredConstructors()) {
            face.add(Modifier.toString(made.getModifiers()) + " Momentdesk"
                + namesOf(made.getParameterTypes(), "(", ")") + thrownBy(made.getExceptionTypes()) + ";");
        }
        return face;
    }

    private static String thrownBy(Class<?>[] exceptions) {
        return exceptions.length == 0 ? "" : namesOf(exceptions, " throws ", "");
    }

    private static String namesOf(Class<?>[] types, String begin, String end) {
        StringBuilder names = new StringBuilder(begin);
        for (int n = 0; n < types.length; n++) {
            names.append(n == 0 ? "" : ", ").append(types[n].getSimpleName());
        }
        return names.append(end).toString();
    }

    private static void otherMembers() {
        Set<String> publicNames = new HashSet<>();
        for (Method method : Momentdesk.class.getDeclaredMethods()) {
            if (Modifier.isPublic(method.getModifiers())) {
                publicNames.add(method.getName());
            } else {
                Due.is("private: " + method, true, Modifier.isPrivate(method.getModifiers()));
            }
        }
        Set<Class<?>> classes = new HashSet<>(Set.of(Momentdesk.class.getDeclaredClasses()));
        classes.add(Momentdesk.class);
        for (Class<?> each : classes) {
            for (Method method : each.getDeclaredMethods()) {
                boolean isFace = Modifier.isPublic(method.getModifiers());
                Due.is("a name of its own: " + method, isFace, publicNames.contains(method.getName()));
                Due.is("at most seven parameters: " + method, true, method.getParameterCount() <= 7);
            }
            for (Field field : each.getDeclaredFields()) {
                int modifiers = field.getModifiers();
                Due.is("private: " + field, true, Modifier.isPrivate(modifiers));
                Due.is("final, if static: " + field, true, !Modifier.isStatic(modifiers) || Modifier.isFinal(modifiers));
            }
        }
    }
}
