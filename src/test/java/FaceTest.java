import java.io.IOException;
import java.lang.reflect.Constructor;
import java.lang.reflect.Field;
import java.lang.reflect.Method;
import java.lang.reflect.Modifier;
import java.nio.file.Files;
import java.nio.file.Path;
import java.util.Arrays;
import java.util.HashSet;
import java.util.Set;
import java.util.TreeSet;

/** The document's face, and the rules of LANGUAGE.md that can be seen from outside or in the words of the source. */
final class FaceTest {
    private static final String ARGUMENT = "IllegalArgumentException";
    private static final String STATE = "IllegalStateException";
    private static final String INDEX = "IndexOutOfBoundsException";
    private static final String ELEMENT = "NoSuchElementException";
    private static final String[] METHODS = {
        face("int pass", 1, ARGUMENT, STATE),
        face("int format", 3, ARGUMENT, STATE),
        face("int line", 1, ARGUMENT, STATE),
        face("int feed", 0, STATE),
        face("int end", 0, STATE),
        face("int pages", 1, INDEX),
        face("int twice", 1, INDEX),
        face("int reprint", 3, INDEX, ARGUMENT),
        face("int copies", 2, INDEX),
        face("int documents", 0),
        face("boolean isThere", 1, INDEX),
        face("int account", 1, INDEX),
        face("int kind", 1, INDEX),
        face("int length", 1, INDEX),
        face("int found", 5, ARGUMENT, INDEX),
        face("int read", 4, ARGUMENT, INDEX, ELEMENT),
        face("void view", 4, ARGUMENT),
        face("int span", 2, ARGUMENT),
        "boolean hold [int, boolean] [IllegalArgumentException]",
        face("int clear", 0),
        face("int bundle", 2, ARGUMENT)};
    private static final String[] FORBIDDEN = {
        "->", "::", "try", "catch", "finally", "synchronized", "assert", "Exact(", "static {", "System.exit",
        "Object", "package ", "@", "float", "double", "java.io", "java.time", "Random", "Thread"};

    private FaceTest() {
    }

    static void all() {
        Check.test("face: the public methods", FaceTest::methods);
        Check.test("face: one public constructor", FaceTest::constructors);
        Check.test("face: all else is private", FaceTest::others);
        Check.test("language: words of the source", FaceTest::words);
    }

    private static String face(String name, int ints, String... exceptions) {
        String[] parameters = new String[ints];
        Arrays.fill(parameters, "int");
        return name + " " + Arrays.toString(parameters) + " " + Arrays.toString(exceptions);
    }

    private static String face(Method method) {
        String[] parameters = Arrays.stream(method.getParameterTypes()).map(Class::getSimpleName).toArray(String[]::new);
        String[] exceptions = Arrays.stream(method.getExceptionTypes()).map(Class::getSimpleName).toArray(String[]::new);
        return method.getReturnType().getSimpleName() + " " + method.getName() + " " + Arrays.toString(parameters) + " "
                + Arrays.toString(exceptions);
    }

    private static void methods() {
        Set<String> got = new TreeSet<>();
        for (Method method : PrintKeeper.class.getDeclaredMethods()) {
            if (Modifier.isPublic(method.getModifiers())) {
                got.add(face(method));
            }
        }
        Check.same("the face", new TreeSet<>(Arrays.asList(METHODS)).toString(), got.toString());
    }

    private static void constructors() {
        Constructor<?>[] all = PrintKeeper.class.getDeclaredConstructors();
        Check.due("constructors", 1, () -> all.length);
        Check.due("parameters", 0, () -> all[0].getParameterCount());
        Check.holds("public", true, () -> Modifier.isPublic(all[0].getModifiers()));
        Check.holds("class is public and final", true, () -> Modifier.isPublic(PrintKeeper.class.getModifiers())
                && Modifier.isFinal(PrintKeeper.class.getModifiers()));
    }

    private static void others() {
        Set<String> publicNames = new HashSet<>();
        for (Method method : PrintKeeper.class.getDeclaredMethods()) {
            if (Modifier.isPublic(method.getModifiers())) {
                publicNames.add(method.getName());
            }
        }
        for (Method method : PrintKeeper.class.getDeclaredMethods()) {
            boolean open = Modifier.isPublic(method.getModifiers());
            Check.holds(method + " is private", true, () -> open || Modifier.isPrivate(method.getModifiers()));
            Check.holds(method + " has a name of its own", true, () -> open || !publicNames.contains(method.getName()));
        }
        for (Field field : PrintKeeper.class.getDeclaredFields()) {
            int modifiers = field.getModifiers();
            Check.holds(field + " is private", true, () -> Modifier.isPrivate(modifiers));
            Check.holds(field + " is no state of all", true,
                    () -> !Modifier.isStatic(modifiers) || Modifier.isFinal(modifiers));
        }
        for (Class<?> inside : PrintKeeper.class.getDeclaredClasses()) {
            Check.holds(inside + " is static", true, () -> Modifier.isStatic(inside.getModifiers()));
            Check.holds(inside + " is not public", true, () -> !Modifier.isPublic(inside.getModifiers()));
        }
    }

    private static void words() {
        String source;
        try {
            source = Files.readString(Path.of("src/main/java/PrintKeeper.java"));
        } catch (IOException e) {
            Check.same("the source", "readable", e.toString());
            return;
        }
        for (String word : FORBIDDEN) {
            Check.holds("the source has " + word, false, () -> source.contains(word));
        }
        String imports = "";
        for (String line : source.split("\n")) {
            imports += line.startsWith("import ") ? line.substring(7) : "";
        }
        Check.same("imports", "java.util.ArrayList;java.util.Arrays;java.util.NoSuchElementException;", imports);
    }
}
