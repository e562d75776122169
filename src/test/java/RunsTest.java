/** Promises 4 to 10 with ordinary calls; the boundary cases are in RunBoundaries. */
final class RunsTest {
    private static final Class<IndexOutOfBoundsException> INDEX = IndexOutOfBoundsException.class;
    private static final int[] NO_SUCH = {-1, Integer.MIN_VALUE, Integer.MAX_VALUE};

    private RunsTest() {
    }

    static void all() {
        Check.test("5 pages are counted", RunsTest::countedPages);
        Check.test("6 an empty open page is left out", RunsTest::leftOut);
        Check.test("7 pages of a run", RunsTest::pages);
        Check.test("8 alike runs", RunsTest::alike);
        Check.test("9 later pages are printed again", RunsTest::reprint);
        Check.test("10 copies of pages", RunsTest::copies);
    }

    private static void countedPages() {
        PrintKeeper x = new PrintKeeper();
        Check.due("a first page sign", 1, x::feed);
        x.line(4);
        Check.due("a second", 2, x::feed);
        Check.due("a third", 3, x::feed);
        x.end();
        Check.due("in the next run", 1, x::feed);
    }

    private static void leftOut() {
        PrintKeeper x = new PrintKeeper();
        x.line(1);
        x.feed();
        Check.due("end behind a page sign", 0, x::end);
        Check.due("its pages", 1, () -> x.pages(0));
        x.feed();
        x.feed();
        Check.due("end behind empty pages", 1, x::end);
        Check.due("their pages", 2, () -> x.pages(1));
        x.feed();
        x.line(2);
        Check.due("end with a line", 2, x::end);
        Check.due("its pages", 2, () -> x.pages(2));
        Check.refused("its first page is empty", INDEX, () -> x.read(0, 2, 0, 0));
        Check.due("its second page", 2, () -> x.read(0, 3, 0, 0));
    }

    private static void pages() {
        PrintKeeper x = new PrintKeeper();
        x.line(1);
        Check.refused("an open run", INDEX, () -> x.pages(0));
        x.end();
        Paper.run(x, Paper.page(1), Paper.page(), Paper.page(2));
        Check.due("run 0", 1, () -> x.pages(0));
        Check.due("run 1", 3, () -> x.pages(1));
        Check.refused("run 2", INDEX, () -> x.pages(2));
        for (int run : NO_SUCH) {
            Check.refused("run " + run, INDEX, () -> x.pages(run));
            Check.refused("run " + run, INDEX, () -> x.twice(run));
        }
        Check.refused("run 2", INDEX, () -> x.twice(2));
    }

    private static void alike() {
        PrintKeeper x = new PrintKeeper();
        int[][] first = {Paper.page(1, 2, 3), Paper.page(), Paper.page(4)};
        Paper.run(x, Paper.page(9));
        Paper.run(x, first);
        Paper.run(x, first);
        Paper.run(x, Paper.page(9));
        Paper.run(x, first);
        Check.due("run 0", -1, () -> x.twice(0));
        Check.due("run 1", -1, () -> x.twice(1));
        Check.due("run 2", 1, () -> x.twice(2));
        Check.due("run 3", 0, () -> x.twice(3));
        Check.due("run 4, alike to the first", 1, () -> x.twice(4));
        x.reprint(2, 0, 1);
        x.span(2, 0);
        x.pass(1);
        x.clear();
        Check.due("copies and days do not matter", 1, () -> x.twice(2));
    }

    private static void reprint() {
        PrintKeeper x = new PrintKeeper();
        Paper.run(x, Paper.page(1), Paper.page(2), Paper.page(3), Paper.page(4));
        Paper.run(x, Paper.page(1));
        Check.due("from the first", 4, () -> x.reprint(0, 0, 1));
        Check.due("from the third", 18, () -> x.reprint(0, 2, 9));
        Check.due("from the last", 2, () -> x.reprint(0, 3, 2));
        int[] due = {2, 2, 11, 13};
        for (int i = 0; i < due.length; i++) {
            int page = i;
            Check.due("copies of page " + page, due[i], () -> x.copies(0, page));
        }
        Check.due("the other run", 1, () -> x.copies(1, 0));
    }

    private static void copies() {
        PrintKeeper x = new PrintKeeper();
        x.line(1);
        Check.refused("an open run", INDEX, () -> x.copies(0, 0));
        x.feed();
        x.feed();
        x.end();
        Check.due("a page", 1, () -> x.copies(0, 0));
        Check.due("an empty page", 1, () -> x.copies(0, 1));
        Check.refused("page 2", INDEX, () -> x.copies(0, 2));
        Check.refused("run 1", INDEX, () -> x.copies(1, 0));
        for (int wrong : NO_SUCH) {
            Check.refused("run " + wrong, INDEX, () -> x.copies(wrong, 0));
            Check.refused("page " + wrong, INDEX, () -> x.copies(0, wrong));
        }
        for (int i = 0; i < 100; i++) {
            x.reprint(0, 1, 9);
        }
        Check.due("many copies", 901, () -> x.copies(0, 1));
    }
}
