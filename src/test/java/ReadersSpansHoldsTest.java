/** Promises 18 to 22 with ordinary calls; the boundary cases are in ReaderBoundaries. */
final class ReadersSpansHoldsTest {
    private ReadersSpansHoldsTest() {
    }

    static void all() {
        Check.test("18 a view has ends", ReadersSpansHoldsTest::viewEnds);
        Check.test("19 spans", ReadersSpansHoldsTest::span);
        Check.test("20 holds", ReadersSpansHoldsTest::hold);
        Check.test("21 each kind has its span", ReadersSpansHoldsTest::clearByKind);
        Check.test("21 the day of the run", ReadersSpansHoldsTest::clearByRun);
        Check.test("21 held accounts stay", ReadersSpansHoldsTest::clearHeld);
        Check.test("22 bundles", ReadersSpansHoldsTest::bundle);
    }

    private static PrintKeeper fourAccounts() {
        PrintKeeper x = new PrintKeeper();
        Paper.run(x, Paper.page(0, 0), Paper.page(1, 1), Paper.page(98, 2), Paper.page(99, 3));
        return x;
    }

    private static String seen(PrintKeeper x, int reader) {
        StringBuilder all = new StringBuilder();
        for (int account : new int[] {0, 1, 98, 99}) {
            all.append(x.bundle(reader, account));
        }
        return all.toString();
    }

    private static void viewEnds() {
        PrintKeeper x = fourAccounts();
        for (int reader = 0; reader <= 3; reader++) {
            Check.same("at first", "1111", seen(x, reader));
        }
        x.view(0, 1, 98, -1);
        Check.same("1 to 98", "0110", seen(x, 0));
        x.view(3, 99, 99, 7);
        Check.same("99 to 99", "0001", seen(x, 3));
        x.view(3, 0, 0, 0);
        Check.same("0 to 0", "1000", seen(x, 3));
        Check.same("another reader", "1111", seen(x, 1));
        x.view(0, 0, 99, -1);
        Check.same("all again", "1111", seen(x, 0));
    }

    private static void span() {
        PrintKeeper x = new PrintKeeper();
        for (int i = 0; i <= 3; i++) {
            int kind = i;
            Check.due("at first", 100, () -> x.span(kind, kind));
            Check.due("told", kind, () -> x.span(kind, 9999));
            Check.due("told again", 9999, () -> x.span(kind, 0));
        }
    }

    private static void hold() {
        PrintKeeper x = new PrintKeeper();
        for (int account : new int[] {0, 50, 99}) {
            Check.holds("at first", false, () -> x.hold(account, true));
            Check.holds("held", true, () -> x.hold(account, true));
            Check.holds("held twice", true, () -> x.hold(account, false));
            Check.holds("let go", false, () -> x.hold(account, false));
        }
        x.hold(50, true);
        Check.holds("another account", false, () -> x.hold(49, false));
    }

    private static void clearByKind() {
        PrintKeeper x = fourAccounts();
        for (int kind = 0; kind <= 3; kind++) {
            x.span(kind, kind * 2);
        }
        Check.due("day 0", 0, x::clear);
        for (int i = 0; i <= 3; i++) {
            int kind = i;
            x.pass(1);
            Check.due("one goes", 1, x::clear);
            Check.holds("the one of kind " + kind, false, () -> x.isThere(kind));
            x.pass(1);
            Check.due("none goes", 0, x::clear);
        }
    }

    private static void clearByRun() {
        PrintKeeper x = new PrintKeeper();
        x.span(0, 3);
        x.line(1);
        x.pass(5);
        x.end();
        x.pass(2);
        Paper.run(x, Paper.page(1));
        x.pass(1);
        Check.due("day 8", 0, x::clear);
        x.pass(1);
        Check.due("day 9", 1, x::clear);
        Check.holds("run 0", false, () -> x.isThere(0));
        Check.holds("run 1", true, () -> x.isThere(1));
        x.pass(2);
        Check.due("day 11", 1, x::clear);
    }

    private static void clearHeld() {
        PrintKeeper x = fourAccounts();
        Paper.feeds(x, 1);
        x.end();
        for (int account = 0; account <= 98; account++) {
            x.hold(account, true);
        }
        x.pass(500);
        Check.due("99 and the one without account", 2, x::clear);
        Check.same("still there", "1110", seen(x, 0));
        Check.holds("account 0", true, () -> x.isThere(0));
        Check.holds("without account", false, () -> x.isThere(4));
        x.hold(0, false);
        Check.due("account 0 goes", 1, x::clear);
        x.hold(1, false);
        x.hold(98, false);
        Check.due("the others go", 2, x::clear);
    }

    private static void bundle() {
        PrintKeeper x = new PrintKeeper();
        Paper.run(x, Paper.page(), Paper.page(5, 1), Paper.page(), Paper.page(6, 1), Paper.page(5, 2));
        Paper.run(x, Paper.page(5, 1), Paper.page(5, 1), Paper.page(5, 1));
        Check.due("account 5", 6, () -> x.bundle(3, 5));
        Check.due("account 6", 1, () -> x.bundle(0, 6));
        Check.due("account 7", 0, () -> x.bundle(0, 7));
        x.reprint(0, 0, 5);
        Check.due("copies do not count", 6, () -> x.bundle(3, 5));
        x.view(1, 6, 9, -1);
        Check.due("not seen", 0, () -> x.bundle(1, 5));
        Check.due("seen", 1, () -> x.bundle(1, 6));
        x.span(2, 0);
        x.pass(1);
        x.clear();
        Check.due("one is gone", 5, () -> x.bundle(3, 5));
    }
}
