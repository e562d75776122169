/** The boundary cases of readers, spans and holds: "Terms" and promises 18 to 22. */
final class ReaderBoundaries {
    /** Four documents of the kinds 0 to 3. */
    private static final String FOUR = "run 10 0 / 11 1 / 12 2 / 13 3";

    private ReaderBoundaries() {
    }

    static void all() {
        viewRanges();
        view();
        span();
        hold();
        clearAtSpan();
        clearHeld();
        bundle();
    }

    private static void viewRanges() {
        Story.range("18 reader", Story.FILLED, "view # 6 8 1", 0, 3, "argument");
        Story.range("18 first account", Story.FILLED, "view 1 # 99 1", 0, 99, "argument");
        Story.range("18 last account", Story.FILLED, "view 1 0 # 1", 0, 99, "argument");
        Story.range("18 last account behind the first", Story.FILLED, "view 2 6 # 1", 6, 99, "argument");
        Story.range("18 last account behind the highest first", Story.FILLED, "view 2 99 # 1", 99, 99, "argument");
        Story.range("18 first account up to the last", "run 5 / 6 / 7", "view 3 # 6 1", 0, 6, "argument");
        Story.range("18 blank line", Story.FILLED, "view 1 0 99 #", -1, 7, "argument");
        Story.test("18 a view that is refused changes neither accounts nor line",
                "run 5 1 / 6 2 / 7 3; view 1 6 6 1; view 1 0 100 0 ! argument; view 1 5 7 8 ! argument;"
                + "view 1 7 6 -1 ! argument; view 4 5 7 0 ! argument; read 1 0 0 0 ! element; read 1 1 0 0 = 6;"
                + "read 1 1 0 1 = -1; read 1 2 0 0 ! element");
    }

    private static void view() {
        Story.test("18 the first account is seen, the one below is not",
                "run 4 / 5; view 2 5 99 -1; bundle 2 4 = 0; bundle 2 5 = 1");
        Story.test("18 the last account is seen, the one above is not",
                "run 5 / 6; view 2 0 5 -1; bundle 2 5 = 1; bundle 2 6 = 0");
        Story.test("18 first and last may be one account",
                "run 4 / 5 / 6; view 2 5 5 -1; bundle 2 4 = 0; bundle 2 5 = 1; bundle 2 6 = 0");
        Story.test("18 the account 0 alone",
                "run 0 / 1 / 99; view 2 0 0 -1; bundle 2 0 = 1; bundle 2 1 = 0; bundle 2 99 = 0");
        Story.test("18 the account 99 alone",
                "run 0 / 98 / 99; view 2 99 99 -1; bundle 2 0 = 0; bundle 2 98 = 0; bundle 2 99 = 1");
        Story.test("18 0 to 99 are all",
                "run 0 / 50 / 99; view 2 50 50 3; view 2 0 99 -1; bundle 2 0 = 1; bundle 2 50 = 1; bundle 2 99 = 1");
        Story.test("18 1 to 98 are all but two",
                "run 0 / 1 / 98 / 99; view 2 1 98 -1; bundle 2 0 = 0; bundle 2 1 = 1; bundle 2 98 = 1;"
                + "bundle 2 99 = 0");
        Story.test("18 each view takes the place of the one before",
                "run 5 1 / 6 2; view 2 5 5 0; view 2 6 6 1; read 2 0 0 0 ! element; read 2 1 0 0 = 6;"
                + "read 2 1 0 1 = -1");
        Story.test("18 other readers see what they saw",
                "run 5 1 / 6 2; view 2 6 6 0; bundle 0 5 = 1; bundle 1 5 = 1; bundle 2 5 = 0; bundle 3 5 = 1;"
                + "read 0 1 0 0 = 6; read 1 1 0 0 = 6; read 2 1 0 0 = -1; read 3 1 0 0 = 6");
        Story.test("18 reader 0 has a view as the others",
                "run 5 / 6; view 0 6 6 0; bundle 0 5 = 0; bundle 0 6 = 1; read 0 0 0 0 ! element; read 0 1 0 0 = -1");
        Story.test("18 a view counts for documents that come later",
                "view 3 6 6 0; run 5 / 6; bundle 3 5 = 0; bundle 3 6 = 1; read 3 1 0 0 = -1");
    }

    private static void span() {
        Story.range("19 kind", FOUR, "span # 7 = 100", 0, 3, "argument");
        Story.range("19 days", FOUR, "span 1 # = 100", 0, 9999, "argument");
        Story.range("19 kind behind other calls", Story.FILLED, "span # 7", 0, 3, "argument");
        Story.range("19 days behind other calls", Story.FILLED, "span 2 # = 5", 0, 9999, "argument");
        Story.test("19 the span before is told", "span 3 0 = 100; span 3 9999 = 0; span 3 7 = 9999; span 3 7 = 7");
        Story.test("19 the other kinds keep theirs",
                "span 1 5 = 100; span 2 6 = 100; span 0 7 = 100; span 3 8 = 100; span 0 0 = 7; span 1 0 = 5;"
                + "span 2 0 = 6; span 3 0 = 8");
    }

    private static void hold() {
        Story.range("20 account that is held", "run 0 / 99", "hold # true = false", 0, 99, "argument");
        Story.range("20 account that is let go", "run 0 / 99; hold 0 true; hold 99 true", "hold # false = true", 0, 99,
                "argument");
        Story.range("20 account behind other calls", Story.FILLED, "hold # true", 0, 99, "argument");
        Story.test("20 whether it was held is told",
                "hold 5 true = false; hold 5 true = true; hold 5 false = true; hold 5 false = false;"
                + "hold 5 true = false");
        Story.test("20 the accounts beside it are not held",
                "hold 5 true = false; hold 4 false = false; hold 6 false = false; hold 5 false = true");
        Story.test("20 an account without documents is held",
                "hold 42 true = false; run 42; pass 101; clear = 0; isThere 0 = true");
    }

    private static void clearAtSpan() {
        Story.test("21 nothing goes if nothing is there", "clear = 0; line 5; clear = 0; pass 1000; clear = 0");
        Story.test("21 on the last day of the first span it stays, a day later it goes",
                "run 5; pass 100; clear = 0; isThere 0 = true; pass 1; clear = 1; isThere 0 = false");
        for (int kind = 0; kind <= 3; kind++) {
            Story.test("21 kind " + kind + " has 100 days at first", "run 5 " + kind + "; pass 100; clear = 0; pass 1;"
                    + "clear = 1");
        }
        Story.test("21 a span of 0 days is over on the next day",
                "span 0 0; run 5; clear = 0; isThere 0 = true; pass 1; clear = 1; isThere 0 = false");
        Story.test("21 a span of 1 day", "span 0 1; run 5; pass 1; clear = 0; pass 1; clear = 1");
        Story.test("21 a span of 9998 days from day 0 is over on the last day",
                "span 0 9998; run 5; 9 x pass 1000; pass 998; clear = 0; pass 1 = 9999; clear = 1");
        Story.test("21 a span of 9999 days from day 0 is not over on the last day",
                "span 0 9999; run 5; 9 x pass 1000; pass 999 = 9999; clear = 0; isThere 0 = true");
        Story.test("21 a span that ends behind the last day is not over",
                "9 x pass 1000; pass 998; run 5; pass 1; run 5; clear = 0; span 0 9999; clear = 0; span 0 0;"
                + "clear = 1; isThere 0 = false; isThere 1 = true");
        Story.test("21 each kind has its own span", FOUR,
                "span 0 3; span 1 2; span 2 1; span 3 0; clear = 0; pass 1; clear = 1; isThere 3 = false; pass 1;"
                + "clear = 1; isThere 2 = false; pass 1; clear = 1; isThere 1 = false; pass 1; clear = 1;"
                + "isThere 0 = false");
        Story.test("21 the span counts from the day of the run",
                "span 0 3; line 5; pass 5; end; pass 3 = 8; clear = 0; pass 1 = 9; clear = 1");
        Story.test("21 runs of two days go on two days",
                "span 0 3; run 5; pass 1; run 6; pass 2; clear = 0; pass 1; clear = 1; isThere 1 = true; pass 1;"
                + "clear = 1; isThere 1 = false");
        Story.test("21 the span is that of the day of clearing",
                "run 5; pass 10; span 0 10; clear = 0; span 0 9; clear = 1");
        Story.test("21 those that go are counted once",
                "run 5 / 6 / 7; pass 101; clear = 3; clear = 0; pass 1; clear = 0");
        Story.test("21 documents are cleared by calls alone",
                "run 5; pass 1000; isThere 0 = true; bundle 0 5 = 1; found 0 5 -1 0 0 = 0; read 0 0 0 0 = 5;"
                + "clear = 1");
        Story.test("21 documents go, seen or not",
                "run 5 / 6; view 0 6 6 -1; view 1 6 6 -1; view 2 6 6 -1; view 3 6 6 -1; pass 101; clear = 2");
        Story.test("21 120 documents go", Story.DOCUMENTS_120, "pass 101; clear = 120; clear = 0");
        Story.test("21 the lines of an open run stay",
                "run 5; line 6; feed; line 7; pass 101; clear = 1; end = 1; documents = 3; isThere 1 = true;"
                + "isThere 2 = true; read 0 2 0 0 = 7");
    }

    private static void clearHeld() {
        Story.test("21 a document of an account that is held stays",
                "run 5 / 6; hold 5 true; pass 1000; clear = 1; isThere 0 = true; isThere 1 = false");
        Story.test("21 the accounts 0 and 99 stay if they are held",
                "run 0 / 1 / 98 / 99; hold 0 true; hold 99 true; pass 101; clear = 2; isThere 0 = true;"
                + "isThere 1 = false; isThere 2 = false; isThere 3 = true");
        Story.test("21 all documents of the account stay",
                "run 5 / 6 / 5 1; hold 5 true; pass 101; clear = 1; isThere 0 = true; isThere 2 = true;"
                + "hold 5 false = true; clear = 2");
        Story.test("21 an account that is let go goes",
                "run 5; hold 5 true; pass 101; clear = 0; hold 5 false = true; isThere 0 = true; clear = 1;"
                + "isThere 0 = false");
        Story.test("21 a hold does not make a span longer",
                "run 5; hold 5 true; pass 50; hold 5 false; pass 50; clear = 0; pass 1; clear = 1");
        Story.test("21 to let go an account whose span is not over does nothing",
                "run 5; hold 5 true; pass 100; hold 5 false; clear = 0; isThere 0 = true");
        Story.test("21 a hold comes too late for a document that is gone",
                "run 5; pass 101; clear = 1; hold 5 true = false; isThere 0 = false; bundle 0 5 = 0");
        Story.test("21 documents without account are not held", holdsOfAll(), "feed; end; pass 100; clear = 0; pass 1;"
                + "clear = 1; isThere 0 = false");
    }

    private static String holdsOfAll() {
        StringBuilder all = new StringBuilder();
        for (int account = 0; account <= 99; account++) {
            all.append("hold ").append(account).append(" true;");
        }
        return all.toString();
    }

    private static void bundle() {
        Story.range("22 reader", "run 5 / 5 / 6", "bundle # 5 = 2", 0, 3, "argument");
        Story.range("22 account", "run 0 / 99", "bundle 2 # = 1", 0, 99, "argument");
        Story.range("22 reader, in all of an object", Story.FILLED, "bundle # 6", 0, 3, "argument");
        Story.range("22 account, in all of an object", Story.FILLED, "bundle 0 #", 0, 99, "argument");
        Story.test("22 -1 is not any account", "feed; line 5; end; bundle 0 -1 ! argument");
        Story.test("22 an account without documents gets no pages", "bundle 0 5 = 0; run 4 / 6; bundle 0 5 = 0");
        Story.test("22 pages of all documents of the account",
                "run 5 / 6 / 5 / 5; run 5 / / 5; bundle 1 5 = 6; bundle 1 6 = 1");
        Story.test("22 120 pages", "run 5" + " / ".repeat(119) + "5; bundle 3 5 = 120");
        Story.test("22 pages of documents without account do not count", "feed; line 0; end; bundle 0 0 = 1");
        Story.test("22 the account below the first gets none, the first does",
                "run 4 / 5 / 5; view 1 5 99 -1; bundle 1 4 = 0; bundle 1 5 = 2");
        Story.test("22 the account above the last gets none, the last does",
                "run 5 / 5 / 6; view 1 0 5 -1; bundle 1 5 = 2; bundle 1 6 = 0");
        Story.test("22 documents that are gone do not count",
                "run 5 0 / 5 / 6 / 5 1; span 0 0; pass 1; bundle 0 5 = 3; clear = 2; bundle 0 5 = 1;"
                + "bundle 0 6 = 0; hold 5 true; pass 200; clear = 0; bundle 0 5 = 1");
        Story.test("22 copies do not count", "run 5 / 5; reprint 0 0 9; bundle 0 5 = 2");
        Story.test("22 a line that is blanked out does not matter", "run 5 / 5; view 1 0 99 0; bundle 1 5 = 2");
        Story.test("22 pages of an open run do not count", "line 5; feed; line 5; bundle 0 5 = 0; end; bundle 0 5 = 2");
    }
}
