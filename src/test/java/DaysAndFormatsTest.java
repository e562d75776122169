/** Promises 1 to 3. */
final class DaysAndFormatsTest {
    private static final Class<IllegalArgumentException> ARGUMENT = IllegalArgumentException.class;
    private static final Class<IllegalStateException> STATE = IllegalStateException.class;
    private static final Class<IndexOutOfBoundsException> INDEX = IndexOutOfBoundsException.class;

    private DaysAndFormatsTest() {
    }

    static void all() {
        Check.test("1 a new object is empty", DaysAndFormatsTest::newObject);
        Check.test("1 two objects share nothing", DaysAndFormatsTest::twoObjects);
        Check.test("2 days pass", DaysAndFormatsTest::pass);
        Check.test("2 days end at 9999", DaysAndFormatsTest::lastDay);
        Check.test("2 wrong days", DaysAndFormatsTest::wrongDays);
        Check.test("3 formats are counted to 10", DaysAndFormatsTest::countedFormats);
        Check.test("3 wrong formats", DaysAndFormatsTest::wrongFormats);
        Check.test("3 no format told", DaysAndFormatsTest::usualFormat);
        Check.test("3 the latest format counts", DaysAndFormatsTest::latestFormat);
        Check.test("3 of the same day the last told counts", DaysAndFormatsTest::sameDay);
        Check.test("3 a format counts when the run is ended", DaysAndFormatsTest::toldAtTheEnd);
        Check.test("3 account and kind at the same line", DaysAndFormatsTest::sameLine);
    }

    private static void newObject() {
        PrintKeeper x = new PrintKeeper();
        Check.due("documents", 0, x::documents);
        Check.refused("pages(0)", INDEX, () -> x.pages(0));
        Check.refused("end", STATE, x::end);
        Check.due("clear", 0, x::clear);
        Check.due("pass(1)", 1, () -> x.pass(1));
    }

    private static void twoObjects() {
        PrintKeeper x = new PrintKeeper();
        PrintKeeper y = new PrintKeeper();
        Paper.run(x, Paper.page(1, 2));
        x.pass(5);
        x.format(0, 3, 3);
        x.hold(1, true);
        x.span(0, 1);
        x.view(0, 5, 5, 5);
        Check.due("documents", 0, y::documents);
        Check.due("pass", 1, () -> y.pass(1));
        Check.due("format", 1, () -> y.format(0, 0, 1));
        Check.holds("hold", false, () -> y.hold(1, false));
        Check.due("span", 100, () -> y.span(0, 1));
        Check.due("end", 0, () -> Paper.run(y, Paper.page(1, 2)));
        Check.due("read", 1, () -> y.read(0, 0, 0, 0));
    }

    private static void pass() {
        PrintKeeper x = new PrintKeeper();
        Check.due("pass(1)", 1, () -> x.pass(1));
        Check.due("pass(1000)", 1001, () -> x.pass(1000));
        Check.due("pass(7)", 1008, () -> x.pass(7));
    }

    private static void lastDay() {
        PrintKeeper x = new PrintKeeper();
        Paper.passTo(x, 0, 9000);
        Check.refused("pass(1000)", STATE, () -> x.pass(1000));
        Check.due("pass(998)", 9998, () -> x.pass(998));
        Check.refused("pass(2)", STATE, () -> x.pass(2));
        Check.due("pass(1)", 9999, () -> x.pass(1));
        Check.refused("pass(1) at the end", STATE, () -> x.pass(1));
        Check.refused("pass(0) at the end", ARGUMENT, () -> x.pass(0));
        Check.refused("pass(1001) at the end", ARGUMENT, () -> x.pass(1001));
    }

    private static void wrongDays() {
        PrintKeeper x = new PrintKeeper();
        for (int days : new int[] {0, -1, 1001, Integer.MIN_VALUE, Integer.MAX_VALUE}) {
            Check.refused("pass(" + days + ")", ARGUMENT, () -> x.pass(days));
        }
        Check.due("pass(1)", 1, () -> x.pass(1));
    }

    private static void countedFormats() {
        PrintKeeper x = new PrintKeeper();
        for (int i = 1; i <= 10; i++) {
            int want = i;
            Check.due("format " + i, want, () -> x.format(9999, 7, 7));
        }
        Check.refused("an 11th", STATE, () -> x.format(0, 5, 5));
        Check.refused("an 11th, wrong day", ARGUMENT, () -> x.format(10000, 5, 5));
        Check.refused("an 11th, wrong account", ARGUMENT, () -> x.format(0, 8, 5));
        Check.refused("an 11th, wrong kind", ARGUMENT, () -> x.format(0, 5, -1));
        Paper.run(x, Paper.page(11, 2, 3, 4, 5, 6));
        Check.due("the refused one changed nothing", 11, () -> x.account(0));
    }

    private static void wrongFormats() {
        PrintKeeper x = new PrintKeeper();
        int[] extremes = {Integer.MIN_VALUE, Integer.MAX_VALUE, -1};
        for (int wrong : extremes) {
            Check.refused("day " + wrong, ARGUMENT, () -> x.format(wrong, 2, 2));
            Check.refused("account " + wrong, ARGUMENT, () -> x.format(0, wrong, 2));
            Check.refused("kind " + wrong, ARGUMENT, () -> x.format(0, 2, wrong));
        }
        Check.refused("day 10000", ARGUMENT, () -> x.format(10000, 2, 2));
        Check.refused("account 8", ARGUMENT, () -> x.format(0, 8, 2));
        Check.refused("kind 8", ARGUMENT, () -> x.format(0, 2, 8));
        Paper.run(x, Paper.page(11, 2, 33));
        Check.due("account", 11, () -> x.account(0));
        Check.due("the first that counts", 1, () -> x.format(0, 0, 0));
    }

    private static void usualFormat() {
        PrintKeeper x = new PrintKeeper();
        Paper.run(x, Paper.page(11, 6, 7));
        x.format(1, 2, 0);
        Paper.run(x, Paper.page(12, 7, 9));
        Check.due("account", 11, () -> x.account(0));
        Check.due("kind", 2, () -> x.kind(0));
        Check.due("account before the format's day", 12, () -> x.account(1));
        Check.due("kind before the format's day", 3, () -> x.kind(1));
    }

    private static void latestFormat() {
        PrintKeeper x = new PrintKeeper();
        x.format(8, 3, 0);
        x.format(4, 1, 2);
        x.format(6, 2, 1);
        int[] page = Paper.page(10, 21, 32, 43);
        int[] dueAccounts = {10, 10, 10, 10, 21, 21, 32, 32, 43, 43};
        int[] dueKinds = {1, 1, 1, 1, 0, 0, 1, 1, 2, 2};
        for (int i = 0; i < dueAccounts.length; i++) {
            int document = i;
            Paper.run(x, page);
            Check.due("account on day " + i, dueAccounts[i], () -> x.account(document));
            Check.due("kind on day " + i, dueKinds[i], () -> x.kind(document));
            x.pass(1);
        }
    }

    private static void sameDay() {
        PrintKeeper x = new PrintKeeper();
        x.format(0, 2, 0);
        Paper.run(x, Paper.page(10, 21, 32, 43));
        Check.due("told for day 0", 32, () -> x.account(0));
        x.format(0, 3, 1);
        Paper.run(x, Paper.page(10, 21, 32, 43));
        Check.due("told again for day 0", 43, () -> x.account(1));
        Check.due("its kind", 1, () -> x.kind(1));
        x.pass(2);
        x.format(2, 1, 0);
        x.format(1, 0, 0);
        x.format(2, 2, 3);
        x.format(1, 3, 3);
        Paper.run(x, Paper.page(10, 21, 32, 43));
        Check.due("the last of day 2", 32, () -> x.account(2));
        Check.due("its kind", 3, () -> x.kind(2));
    }

    private static void toldAtTheEnd() {
        PrintKeeper x = new PrintKeeper();
        x.line(1);
        x.line(2);
        x.feed();
        x.line(3);
        x.line(4);
        x.format(3, 1, 0);
        x.pass(3);
        x.end();
        Check.due("account by the day of the end", 2, () -> x.account(0));
        Check.due("kind by the day of the end", 1, () -> x.kind(0));
        x.format(0, 0, 0);
        x.format(3, 0, 1);
        Check.due("a document does not change", 2, () -> x.account(0));
        Check.due("nor its kind", 1, () -> x.kind(0));
        Check.due("nor how many there are", 2, x::documents);
    }

    private static void sameLine() {
        PrintKeeper x = new PrintKeeper();
        x.format(0, 7, 7);
        Paper.run(x, Paper.page(1, 2, 3, 4, 5, 6, 7, 99), Paper.page(1, 2, 3, 4, 5, 6, 7));
        Check.due("account at line 7", 99, () -> x.account(0));
        Check.due("kind at line 7", 3, () -> x.kind(0));
        Check.due("one page lacks line 7", 2, () -> x.length(0));
    }
}
