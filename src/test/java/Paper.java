/** Feeds whole runs to a keeper, for the tests. */
final class Paper {
    private Paper() {
    }

    static int[] page(int... values) {
        return values;
    }

    /** Every page but the last is closed with a page sign, the last one by the end. */
    static int run(PrintKeeper x, int[]... pages) {
        for (int i = 0; i < pages.length; i++) {
            for (int value : pages[i]) {
                x.line(value);
            }
            if (i < pages.length - 1) {
                x.feed();
            }
        }
        return x.end();
    }

    static void feeds(PrintKeeper x, int count) {
        for (int i = 0; i < count; i++) {
            x.feed();
        }
    }

    static void passTo(PrintKeeper x, int from, int to) {
        int day = from;
        while (day < to) {
            day = x.pass(Math.min(1000, to - day));
        }
    }
}
