import java.lang.reflect.Constructor;
import java.lang.reflect.Field;
import java.lang.reflect.Method;
import java.lang.reflect.Modifier;
import java.nio.file.Files;
import java.nio.file.Path;
import java.util.Arrays;
import java.util.HashSet;
import java.util.Set;
import java.util.TreeSet;
import java.util.stream.Collectors;

/** The face is that of the document, and nothing beside it (LANGUAGE.md, rule 1). */
final class FaceTest {
    public static void main(String[] args) throws Exception {
        Checks checks = new Checks();
        Set<String> due = documentFace();
        checks.due("the document has methods", due.size() > 30, true);

        Set<String> found = new TreeSet<>();
        Set<String> publicNames = new HashSet<>();
        for (Method m : Pebblegate.class.getDeclaredMethods()) {
            if (!m.isSynthetic() && !Modifier.isPrivate(m.getModifiers())) {
                found.add(describe(m));
                publicNames.add(m.getName());
            }
        }
        checks.due("the methods", String.join("\n", found), String.join("\n", due));

        for (Method m : Pebblegate.class.getDeclaredMethods()) {
            if (Modifier.isPrivate(m.getModifiers()) && publicNames.contains(m.getName())) {
                checks.fail("a private method has a public name: " + m);
            }
        }
        for (Class<?> inner : Pebblegate.class.getDeclaredClasses()) {
            for (Method m : inner.getDeclaredMethods()) {
                if (Modifier.isPrivate(m.getModifiers()) && publicNames.contains(m.getName())) {
                    checks.fail("a private method has a public name: " + m);
                }
            }
        }
        for (Field f : Pebblegate.class.getDeclaredFields()) {
            if (!Modifier.isPrivate(f.getModifiers())) {
                checks.fail("a field is not private: " + f);
            }
        }
        Constructor<?>[] constructors = Pebblegate.class.getDeclaredConstructors();
        checks.due("constructors", constructors.length, 1);
        checks.due("its parameters", constructors[0].getParameterCount(), 0);
        checks.due("it is public", Modifier.isPublic(constructors[0].getModifiers()), true);
        int classModifiers = Pebblegate.class.getModifiers();
        checks.due("the class is final", Modifier.isFinal(classModifiers), true);
        checks.due("the class is public", Modifier.isPublic(classModifiers), true);
        checks.end();
    }

    /** "int add(int,int) throws IndexOutOfBoundsException,IllegalArgumentException" and its like. */
    private static Set<String> documentFace() throws Exception {
        Set<String> face = new TreeSet<>();
        boolean isInside = false;
        for (String raw : Files.readAllLines(Path.of("../shared/DOC.md"))) {
            String line = raw.trim();
            if (line.startsWith("public final class Pebblegate")) {
                isInside = true;
            } else if (isInside && line.equals("}")) {
                return face;
            } else if (isInside && !line.startsWith("public Pebblegate(")) {
                face.add(normal(line));
            }
        }
        return face;
    }

    private static String normal(String line) {
        int open = line.indexOf('(');
        int close = line.indexOf(')');
        String head = line.substring("public ".length(), open);
        String parameters = Arrays.stream(line.substring(open + 1, close).split(","))
                .map(String::trim)
                .map(p -> p.isEmpty() ? "" : p.substring(0, p.indexOf(' ')))
                .collect(Collectors.joining(","));
        String rest = line.substring(close + 1).replace(";", "").trim();
        String thrown = rest.startsWith("throws ") ? rest.substring("throws ".length()).replace(" ", "") : "";
        return head + "(" + parameters + ") throws " + thrown;
    }

    private static String describe(Method m) {
        String parameters = Arrays.stream(m.getParameterTypes())
                .map(Class::getSimpleName)
                .collect(Collectors.joining(","));
        String thrown = Arrays.stream(m.getExceptionTypes())
                .map(Class::getSimpleName)
                .collect(Collectors.joining(","));
        return m.getReturnType().getSimpleName() + " " + m.getName() + "(" + parameters + ") throws " + thrown;
    }
}
