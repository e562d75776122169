import java.util.Arrays;

/** All promises: long runs of mixed calls answer as the plain model does. */
final class ModelTest {
    private static final String[] CALLS = {
        "pass", "format", "line", "feed", "end", "pages", "twice", "reprint", "copies", "documents", "isThere",
        "account", "kind", "length", "found", "read", "view", "span", "hold", "clear", "bundle"};
    /** How often each call comes, of the style of a run; lines and page signs make the room for all else. */
    private static final int[][] STYLES = {
        {2, 1, 30, 12, 6, 2, 3, 3, 3, 1, 3, 3, 3, 3, 9, 12, 3, 3, 3, 3, 6},
        {1, 1, 20, 60, 3, 1, 2, 2, 2, 1, 2, 2, 2, 2, 6, 6, 1, 1, 1, 2, 3},
        {4, 2, 40, 5, 25, 1, 6, 2, 2, 1, 4, 2, 2, 2, 8, 8, 3, 5, 5, 8, 4},
        {9, 5, 5, 5, 5, 5, 5, 5, 5, 5, 5, 5, 5, 5, 5, 5, 5, 5, 5, 5, 5}};
    private static final int[] EXTREMES = {
        Integer.MIN_VALUE, Integer.MIN_VALUE + 1, -2, -1, 0, 1, 3, 4, 7, 8, 9, 10, 14, 15, 99, 100, 119, 120, 1000,
        1001, 9999, 10000, Integer.MAX_VALUE - 1, Integer.MAX_VALUE};
    private static final int CALLS_A_RUN = 512;

    /** A fixed sequence, so that a run that fails can be run again. */
    private static final class Sequence {
        private long state;

        Sequence(long seed) {
            state = seed * 0x9E3779B97F4A7C15L + 1;
        }

        int below(int bound) {
            state = state * 6364136223846793005L + 1442695040888963407L;
            return (int) ((state >>> 33) % bound);
        }
    }

    private ModelTest() {
    }

    static void all() {
        for (int style = 0; style < STYLES.length; style++) {
            int chosen = style;
            Check.test("all: mixed calls of style " + style, () -> runs(chosen, 400));
        }
    }

    private static void runs(int style, int count) {
        for (int seed = 1; seed <= count; seed++) {
            if (!run(style, seed)) {
                return;
            }
        }
    }

    private static boolean run(int style, int seed) {
        Sequence next = new Sequence(seed * 10L + style);
        PrintKeeper keeper = new PrintKeeper();
        PlainModel model = new PlainModel();
        for (int i = 0; i < CALLS_A_RUN; i++) {
            String call = chosen(next, STYLES[style]);
            int[] a = arguments(next, call);
            String want = model.answer(call, a);
            String got = new Call(call, a).answer(keeper);
            if (!want.equals(got)) {
                Check.same("seed " + seed + ", call " + i + ": " + call + Arrays.toString(a), want, got);
                return false;
            }
        }
        return true;
    }

    private static String chosen(Sequence next, int[] style) {
        int left = next.below(Arrays.stream(style).sum());
        int call = 0;
        while (left >= style[call]) {
            left -= style[call];
            call++;
        }
        return CALLS[call];
    }

    private static int[] arguments(Sequence next, String call) {
        int[] a = usualArguments(next, call);
        if (a.length > 0 && next.below(12) == 0) {
            a[next.below(a.length)] = EXTREMES[next.below(EXTREMES.length)];
        }
        return a;
    }

    private static int[] usualArguments(Sequence next, String call) {
        switch (call) {
            case "pass": return new int[] {1 + (next.below(4) == 0 ? next.below(1000) : next.below(3))};
            case "format": return new int[] {next.below(12), next.below(4), next.below(4)};
            case "line": return new int[] {next.below(5) == 0 ? next.below(100) : next.below(3)};
            case "pages": case "twice": return new int[] {next.below(15)};
            case "reprint": return new int[] {next.below(6), next.below(4), 1 + next.below(9)};
            case "copies": return new int[] {next.below(6), next.below(6)};
            case "isThere": case "account": case "kind": case "length": return new int[] {next.below(25)};
            case "found": return new int[] {next.below(4), next.below(4) - 1, next.below(5) - 1,
                next.below(3) == 0 ? next.below(20) : 0, next.below(4)};
            case "read": return new int[] {next.below(4), next.below(15), next.below(3), next.below(5)};
            case "view": return new int[] {next.below(4), next.below(3), next.below(3) == 0 ? 99 : next.below(4),
                next.below(9) - 1};
            case "span": return new int[] {next.below(4), next.below(3) == 0 ? 100 : next.below(6)};
            case "hold": return new int[] {next.below(4), next.below(2)};
            case "bundle": return new int[] {next.below(4), next.below(4)};
            default: return new int[0];
        }
    }
}
