import java.util.Arrays;
import java.util.Set;

/** One call of the face by its name; a boolean is 1 or 0, as an argument and as an answer. */
final class Call {
    private static final Set<String> ASKING = Set.of("pages", "twice", "copies", "documents", "isThere", "account",
            "kind", "length", "found", "read", "bundle");

    private final String name;
    private final int[] arguments;

    Call(String name, int... arguments) {
        this.name = name;
        this.arguments = arguments;
    }

    /** Whether it is a call that only asks, and so changes nothing. */
    boolean asks() {
        return ASKING.contains(name);
    }

    /** Its answer as a text: a number, or the name of the exception. */
    String answer(PrintKeeper x) {
        try {
            return String.valueOf(number(x, arguments));
        } catch (RuntimeException e) {
            return Check.name(e);
        }
    }

    /** Whether an answer is no exception. */
    static boolean isNumber(String answer) {
        return Character.isDigit(answer.charAt(answer.length() - 1));
    }

    @Override
    public String toString() {
        return name + Arrays.toString(arguments);
    }

    private long number(PrintKeeper x, int[] a) {
        switch (name) {
            case "pass": return x.pass(a[0]);
            case "format": return x.format(a[0], a[1], a[2]);
            case "line": return x.line(a[0]);
            case "feed": return x.feed();
            case "end": return x.end();
            case "pages": return x.pages(a[0]);
            case "twice": return x.twice(a[0]);
            case "reprint": return x.reprint(a[0], a[1], a[2]);
            case "copies": return x.copies(a[0], a[1]);
            case "documents": return x.documents();
            case "isThere": return x.isThere(a[0]) ? 1 : 0;
            case "account": return x.account(a[0]);
            case "kind": return x.kind(a[0]);
            case "length": return x.length(a[0]);
            case "found": return x.found(a[0], a[1], a[2], a[3], a[4]);
            case "read": return x.read(a[0], a[1], a[2], a[3]);
            case "view": x.view(a[0], a[1], a[2], a[3]); return 0;
            case "span": return x.span(a[0], a[1]);
            case "hold": return x.hold(a[0], a[1] != 0) ? 1 : 0;
            case "clear": return x.clear();
            case "bundle": return x.bundle(a[0], a[1]);
            default: throw new UnsupportedOperationException(name);
        }
    }
}
