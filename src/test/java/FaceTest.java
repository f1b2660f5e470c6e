import java.io.IOException;
import java.lang.reflect.Constructor;
import java.lang.reflect.Field;
import java.lang.reflect.Method;
import java.lang.reflect.Modifier;
import java.nio.file.Files;
import java.nio.file.Path;
import java.util.Set;
import java.util.TreeSet;

/** The public face: what the document lists there, and nothing else that is not private. */
public final class FaceTest {
    public static void main(String[] args) throws IOException {
        Check check = new Check("FaceTest");
        Set<String> told = toldFace(Files.readString(Path.of("../shared/DOC.md")));
        Set<String> built = new TreeSet<>();
        for (Constructor<?> one : Shortnumbers.class.getDeclaredConstructors()) {
            built.add(header(one.getModifiers(), "", "Shortnumbers", one.getParameterTypes(),
                    one.getExceptionTypes()));
        }
        Set<String> names = new TreeSet<>();
        for (Method one : Shortnumbers.class.getDeclaredMethods()) {
            if (!Modifier.isPrivate(one.getModifiers())) {
                names.add(one.getName());
                built.add(header(one.getModifiers(), one.getReturnType().getSimpleName() + " ",
                        one.getName(), one.getParameterTypes(), one.getExceptionTypes()));
            }
        }
        check.due("the number of constructors and methods", told.size(), 46);
        check.due("the face", String.join("\n", built), String.join("\n", told));
        check.due("the class's modifiers", Modifier.toString(Shortnumbers.class.getModifiers()),
                "public final");
        privateNames(check, names);
        membersWithin(check);
        check.end();
    }

    private static void privateNames(Check check, Set<String> names) {
        for (Method one : Shortnumbers.class.getDeclaredMethods()) {
            if (Modifier.isPrivate(one.getModifiers())) {
                check.due("a public name for " + one, names.contains(one.getName()), false);
            }
        }
    }

    private static void membersWithin(Check check) {
        for (Field one : Shortnumbers.class.getDeclaredFields()) {
            check.due(one + " is private", Modifier.isPrivate(one.getModifiers()), true);
            boolean isFixed = !Modifier.isStatic(one.getModifiers())
                    || Modifier.isFinal(one.getModifiers());
            check.due(one + " is no static state", isFixed, true);
        }
        for (Class<?> one : Shortnumbers.class.getDeclaredClasses()) {
            int modifiers = one.getModifiers();
            check.due(one + " is static", Modifier.isStatic(modifiers), true);
            check.due(one + " is hidden",
                    !Modifier.isPublic(modifiers) && !Modifier.isProtected(modifiers), true);
        }
    }

    private static String header(int modifiers, String kind, String name, Class<?>[] takes,
            Class<?>[] throwing) {
        StringBuilder header = new StringBuilder(Modifier.toString(modifiers));
        header.append(' ').append(kind).append(name).append('(').append(listed(takes)).append(')');
        if (throwing.length > 0) {
            header.append(" throws ").append(listed(throwing));
        }
        return header.toString();
    }

    private static String listed(Class<?>[] kinds) {
        StringBuilder list = new StringBuilder();
        for (Class<?> kind : kinds) {
            list.append(list.length() == 0 ? "" : ", ").append(kind.getSimpleName());
        }
        return list.toString();
    }

    /** The lines of the document's face, without the parameters' names. */
    private static Set<String> toldFace(String document) {
        Set<String> told = new TreeSet<>();
        int from = document.indexOf("```java");
        for (String line : document.substring(from, document.indexOf("```", from + 3)).split("\n")) {
            if (line.endsWith(";")) {
                String header = line.strip().replaceAll("(int|boolean) \\w+(?=[,)])", "$1");
                told.add(header.substring(0, header.length() - 1));
            }
        }
        return told;
    }
}
