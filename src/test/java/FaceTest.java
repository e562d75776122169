import java.io.IOException;
import java.lang.reflect.Constructor;
import java.lang.reflect.Field;
import java.lang.reflect.Method;
import java.lang.reflect.Modifier;
import java.nio.file.Files;
import java.nio.file.Path;
import java.util.Arrays;
import java.util.HashSet;
import java.util.Set;
import java.util.TreeSet;
import java.util.regex.Pattern;

/** The document's face, and the rules of LANGUAGE.md that can be seen from outside or in the words of the source. */
final class FaceTest {
    private static final String ARGUMENT = "IllegalArgumentException";
    private static final String STATE = "IllegalStateException";
    private static final String INDEX = "IndexOutOfBoundsException";
    private static final String ELEMENT = "NoSuchElementException";
    private static final String[] METHODS = {
        face("int pass", 1, ARGUMENT, STATE),
        face("int format", 3, ARGUMENT, STATE),
        face("int line", 1, ARGUMENT, STATE),
        face("int feed", 0, STATE),
        face("int end", 0, STATE),
        face("int pages", 1, INDEX),
        face("int twice", 1, INDEX),
        face("int reprint", 3, INDEX, ARGUMENT),
        face("int copies", 2, INDEX),
        face("int documents", 0),
        face("boolean isThere", 1, INDEX),
        face("int account", 1, INDEX),
        face("int kind", 1, INDEX),
        face("int length", 1, INDEX),
        face("int found", 5, ARGUMENT, INDEX),
        face("int read", 4, ARGUMENT, INDEX, ELEMENT),
        face("void view", 4, ARGUMENT),
        face("int span", 2, ARGUMENT),
        "boolean hold [int, boolean] [IllegalArgumentException]",
        face("int clear", 0),
        face("int bundle", 2, ARGUMENT)};
    /** What LANGUAGE.md rules out, as far as it can be told by words. */
    private static final String[] FORBIDDEN = {
        "::", "\\bfinally\\b", "\\bsynchronized\\b", "\\bassert\\b", "\\bpackage\\b", "\\bObjects?\\b", "\\bstatic \\{",
        "\\bSystem\\.(?!arraycopy)", "\\b\\w+Exact\\(", "\\bgetMessage\\b", "@(?!Override)",
        "\\b(Exception|Throwable|Error|NullPointerException|ClassCastException|ArrayStoreException)\\b",
        "\\b(ArrayIndexOutOfBoundsException|NegativeArraySizeException)\\b"};
    private static final String IMPORTS = "(ArrayList|List|Arrays|Iterator|NoSuchElementException|\\*)";

    private FaceTest() {
    }

    static void all() {
        Check.test("face: the public methods", FaceTest::methods);
        Check.test("face: one public constructor", FaceTest::constructors);
        Check.test("face: all else is private", FaceTest::others);
        Check.test("language: words of the source", FaceTest::words);
    }

    private static String face(String name, int ints, String... exceptions) {
        String[] parameters = new String[ints];
        Arrays.fill(parameters, "int");
        return name + " " + Arrays.toString(parameters) + " " + Arrays.toString(exceptions);
    }

    private static String face(Method method) {
        return method.getReturnType().getSimpleName() + " " + method.getName() + " "
                + names(method.getParameterTypes()) + " " + names(method.getExceptionTypes());
    }

    private static String names(Class<?>[] types) {
        return Arrays.toString(Arrays.stream(types).map(Class::getSimpleName).toArray(String[]::new));
    }

    private static void methods() {
        Set<String> got = new TreeSet<>();
        for (Method method : PrintKeeper.class.getDeclaredMethods()) {
            if (Modifier.isPublic(method.getModifiers())) {
                got.add(face(method));
            }
        }
        Check.same("the face", new TreeSet<>(Arrays.asList(METHODS)).toString(), got.toString());
    }

    private static void constructors() {
        Constructor<?>[] all = PrintKeeper.class.getDeclaredConstructors();
        Check.due("constructors", 1, () -> all.length);
        Check.due("parameters", 0, () -> all[0].getParameterCount());
        Check.holds("public", true, () -> Modifier.isPublic(all[0].getModifiers()));
        Check.holds("class is public and final", true, () -> Modifier.isPublic(PrintKeeper.class.getModifiers())
                && Modifier.isFinal(PrintKeeper.class.getModifiers()));
    }

    private static void others() {
        Set<String> publicNames = new HashSet<>();
        for (Method method : PrintKeeper.class.getDeclaredMethods()) {
            if (Modifier.isPublic(method.getModifiers())) {
                publicNames.add(method.getName());
            }
        }
        for (Method method : PrintKeeper.class.getDeclaredMethods()) {
            boolean open = Modifier.isPublic(method.getModifiers());
            Check.holds(method + " is private", true, () -> open || Modifier.isPrivate(method.getModifiers()));
            Check.holds(method + " has a name of its own", true, () -> open || !publicNames.contains(method.getName()));
        }
        for (Field field : PrintKeeper.class.getDeclaredFields()) {
            int modifiers = field.getModifiers();
            Check.holds(field + " is private", true, () -> Modifier.isPrivate(modifiers));
            Check.holds(field + " is no state of all", true,
                    () -> !Modifier.isStatic(modifiers) || Modifier.isFinal(modifiers));
        }
        for (Class<?> inside : PrintKeeper.class.getDeclaredClasses()) {
            Check.holds(inside + " is static", true, () -> Modifier.isStatic(inside.getModifiers()));
            Check.holds(inside + " is not public", true, () -> !Modifier.isPublic(inside.getModifiers()));
        }
    }

    private static void words() {
        String source;
        try {
            source = Files.readString(Path.of("src/main/java/PrintKeeper.java"));
        } catch (IOException e) {
            Check.same("the source", "readable", e.toString());
            return;
        }
        String code = source.replaceAll("(?s)/\\*.*?\\*/|//[^\n]*", "");
        Check.holds("signs of 1 to 127", true, () -> code.matches("[\\x01-\\x7f]*+"));
        wordsOf(code.replaceAll("\"(\\\\.|[^\"\\\\])*\"", ""));
    }

    private static void wordsOf(String code) {
        for (String word : FORBIDDEN) {
            Check.holds("the source has " + word, false, () -> Pattern.compile(word).matcher(code).find());
        }
        for (String line : code.split("\n")) {
            String words = line.trim();
            boolean isCase = words.startsWith("case ") || words.startsWith("default ");
            Check.holds("a lambda: " + words, false, () -> words.contains("->") && !isCase);
            Check.holds(words, true, () -> !words.startsWith("import ")
                    || words.matches("import java\\.util\\." + IMPORTS + ";"));
        }
    }
}
