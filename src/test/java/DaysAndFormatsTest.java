/** Promises 1 to 3 with ordinary calls; the boundary cases are in DayBoundaries. */
final class DaysAndFormatsTest {
    private DaysAndFormatsTest() {
    }

    static void all() {
        Check.test("1 two objects share nothing", DaysAndFormatsTest::twoObjects);
        Check.test("2 days pass", DaysAndFormatsTest::pass);
        Check.test("3 the latest format counts", DaysAndFormatsTest::latestFormat);
        Check.test("3 of the same day the last told counts", DaysAndFormatsTest::sameDay);
        Check.test("3 a format counts when the run is ended", DaysAndFormatsTest::toldAtTheEnd);
        Check.test("3 account and kind at the same line", DaysAndFormatsTest::sameLine);
    }

    private static void twoObjects() {
        PrintKeeper x = new PrintKeeper();
        PrintKeeper y = new PrintKeeper();
        Paper.run(x, Paper.page(1, 2));
        x.pass(5);
        x.format(0, 3, 3);
        x.hold(1, true);
        x.span(0, 1);
        x.view(0, 5, 5, 5);
        Check.due("documents", 0, y::documents);
        Check.due("pass", 1, () -> y.pass(1));
        Check.due("format", 1, () -> y.format(0, 0, 1));
        Check.holds("hold", false, () -> y.hold(1, false));
        Check.due("span", 100, () -> y.span(0, 1));
        Check.due("end", 0, () -> Paper.run(y, Paper.page(1, 2)));
        Check.due("read", 1, () -> y.read(0, 0, 0, 0));
    }

    private static void pass() {
        PrintKeeper x = new PrintKeeper();
        Check.due("pass(1)", 1, () -> x.pass(1));
        Check.due("pass(1000)", 1001, () -> x.pass(1000));
        Check.due("pass(7)", 1008, () -> x.pass(7));
    }

    private static void latestFormat() {
        PrintKeeper x = new PrintKeeper();
        x.format(8, 3, 0);
        x.format(4, 1, 2);
        x.format(6, 2, 1);
        int[] page = Paper.page(10, 21, 32, 43);
        int[] dueAccounts = {10, 10, 10, 10, 21, 21, 32, 32, 43, 43};
        int[] dueKinds = {1, 1, 1, 1, 0, 0, 1, 1, 2, 2};
        for (int i = 0; i < dueAccounts.length; i++) {
            int document = i;
            Paper.run(x, page);
            Check.due("account on day " + i, dueAccounts[i], () -> x.account(document));
            Check.due("kind on day " + i, dueKinds[i], () -> x.kind(document));
            x.pass(1);
        }
    }

    private static void sameDay() {
        PrintKeeper x = new PrintKeeper();
        x.format(0, 2, 0);
        Paper.run(x, Paper.page(10, 21, 32, 43));
        Check.due("told for day 0", 32, () -> x.account(0));
        x.format(0, 3, 1);
        Paper.run(x, Paper.page(10, 21, 32, 43));
        Check.due("told again for day 0", 43, () -> x.account(1));
        Check.due("its kind", 1, () -> x.kind(1));
        x.pass(2);
        x.format(2, 1, 0);
        x.format(1, 0, 0);
        x.format(2, 2, 3);
        x.format(1, 3, 3);
        Paper.run(x, Paper.page(10, 21, 32, 43));
        Check.due("the last of day 2", 32, () -> x.account(2));
        Check.due("its kind", 3, () -> x.kind(2));
    }

    private static void toldAtTheEnd() {
        PrintKeeper x = new PrintKeeper();
        x.line(1);
        x.line(2);
        x.feed();
        x.line(3);
        x.line(4);
        x.format(3, 1, 0);
        x.pass(3);
        x.end();
        Check.due("account by the day of the end", 2, () -> x.account(0));
        Check.due("kind by the day of the end", 1, () -> x.kind(0));
        x.format(0, 0, 0);
        x.format(3, 0, 1);
        Check.due("a document does not change", 2, () -> x.account(0));
        Check.due("nor its kind", 1, () -> x.kind(0));
        Check.due("nor how many there are", 2, x::documents);
    }

    private static void sameLine() {
        PrintKeeper x = new PrintKeeper();
        x.format(0, 7, 7);
        Paper.run(x, Paper.page(1, 2, 3, 4, 5, 6, 7, 99), Paper.page(1, 2, 3, 4, 5, 6, 7));
        Check.due("account at line 7", 99, () -> x.account(0));
        Check.due("kind at line 7", 3, () -> x.kind(0));
        Check.due("one page lacks line 7", 2, () -> x.length(0));
    }
}
