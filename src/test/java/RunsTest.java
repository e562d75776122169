/** Promises 4 to 10. */
final class RunsTest {
    private static final Class<IllegalArgumentException> ARGUMENT = IllegalArgumentException.class;
    private static final Class<IllegalStateException> STATE = IllegalStateException.class;
    private static final Class<IndexOutOfBoundsException> INDEX = IndexOutOfBoundsException.class;
    private static final int[] NO_SUCH = {-1, Integer.MIN_VALUE, Integer.MAX_VALUE};

    private RunsTest() {
    }

    static void all() {
        Check.test("4 lines are counted to 8", RunsTest::countedLines);
        Check.test("4 wrong values", RunsTest::wrongValues);
        Check.test("5 pages are counted", RunsTest::countedPages);
        Check.test("5 no page beyond 120", RunsTest::pagesOfOneRun);
        Check.test("5 pages of kept runs count too", RunsTest::pagesOfAllRuns);
        Check.test("6 an empty open page is left out", RunsTest::leftOut);
        Check.test("6 no run without pages", RunsTest::noPages);
        Check.test("6 no run beyond 15", RunsTest::noMoreRuns);
        Check.test("6 no end beyond 120 pages", RunsTest::endBeyondPages);
        Check.test("6 exactly 120 pages", RunsTest::endAtPages);
        Check.test("7 pages of a run", RunsTest::pages);
        Check.test("8 alike runs", RunsTest::alike);
        Check.test("8 runs that are not alike", RunsTest::notAlike);
        Check.test("8 the day is the day of the end", RunsTest::sameDay);
        Check.test("9 later pages are printed again", RunsTest::reprint);
        Check.test("9 wrong reprints", RunsTest::wrongReprints);
        Check.test("10 copies of pages", RunsTest::copies);
    }

    private static void countedLines() {
        PrintKeeper x = new PrintKeeper();
        for (int i = 1; i <= 8; i++) {
            int value = i == 1 ? 0 : 99;
            Check.due("line " + i, i, () -> x.line(value));
        }
        Check.refused("a 9th", STATE, () -> x.line(5));
        Check.refused("a 9th, wrong value", ARGUMENT, () -> x.line(100));
        x.feed();
        Check.due("on the next page", 1, () -> x.line(5));
        x.end();
        Check.due("in the next run", 1, () -> x.line(5));
        Check.due("the first line", 0, () -> x.read(0, 0, 0, 0));
        Check.due("the last line", 99, () -> x.read(0, 0, 0, 7));
    }

    private static void wrongValues() {
        PrintKeeper x = new PrintKeeper();
        for (int value : new int[] {-1, 100, Integer.MIN_VALUE, Integer.MAX_VALUE}) {
            Check.refused("line(" + value + ")", ARGUMENT, () -> x.line(value));
        }
        Check.refused("no line came", STATE, x::end);
        Check.due("line(3)", 1, () -> x.line(3));
    }

    private static void countedPages() {
        PrintKeeper x = new PrintKeeper();
        Check.due("a first page sign", 1, x::feed);
        x.line(4);
        Check.due("a second", 2, x::feed);
        Check.due("a third", 3, x::feed);
        x.end();
        Check.due("in the next run", 1, x::feed);
    }

    private static void pagesOfOneRun() {
        PrintKeeper x = new PrintKeeper();
        for (int i = 1; i <= 120; i++) {
            Check.due("feed " + i, i, x::feed);
        }
        Check.refused("a 121st", STATE, x::feed);
        Check.due("a line", 1, () -> x.line(5));
        Check.refused("a 121st with a line", STATE, x::feed);
        Check.due("the line is still there", 2, () -> x.line(5));
        Check.refused("the end of 121", STATE, x::end);
        Check.refused("no run came of it", INDEX, () -> x.pages(0));
        Check.due("nor documents", 0, x::documents);
    }

    private static void pagesOfAllRuns() {
        PrintKeeper x = new PrintKeeper();
        Paper.feeds(x, 70);
        x.end();
        Paper.feeds(x, 49);
        x.end();
        Check.due("the 120th", 1, x::feed);
        Check.refused("the 121st", STATE, x::feed);
        Check.due("end", 2, x::end);
        Check.refused("no page more", STATE, x::feed);
        Check.refused("nothing to end", STATE, x::end);
        Check.due("a line", 1, () -> x.line(1));
        Check.refused("no page for it", STATE, x::end);
        Check.due("pages of the last run", 1, () -> x.pages(2));
    }

    private static void leftOut() {
        PrintKeeper x = new PrintKeeper();
        x.line(1);
        x.feed();
        Check.due("end behind a page sign", 0, x::end);
        Check.due("its pages", 1, () -> x.pages(0));
        x.feed();
        x.feed();
        Check.due("end behind empty pages", 1, x::end);
        Check.due("their pages", 2, () -> x.pages(1));
        x.feed();
        x.line(2);
        Check.due("end with a line", 2, x::end);
        Check.due("its pages", 2, () -> x.pages(2));
        Check.refused("its first page is empty", INDEX, () -> x.read(0, 2, 0, 0));
        Check.due("its second page", 2, () -> x.read(0, 3, 0, 0));
    }

    private static void noPages() {
        PrintKeeper x = new PrintKeeper();
        Check.refused("end at first", STATE, x::end);
        Paper.run(x, Paper.page(1));
        Check.refused("end behind a run", STATE, x::end);
        Check.due("documents", 1, x::documents);
        Check.due("the next run", 1, () -> Paper.run(x, Paper.page(1)));
    }

    private static void noMoreRuns() {
        PrintKeeper x = new PrintKeeper();
        for (int i = 0; i < 15; i++) {
            Check.due("run " + i, i, () -> Paper.run(x, Paper.page(1)));
        }
        Check.due("a line", 1, () -> x.line(7));
        Check.refused("a 16th run", STATE, x::end);
        Check.due("the line is still there", 2, () -> x.line(7));
        Check.due("a page sign", 1, x::feed);
        Check.refused("a 16th run of a page", STATE, x::end);
        Check.due("the page is still there", 2, x::feed);
        Check.refused("no such run", INDEX, () -> x.pages(15));
        Check.due("documents", 15, x::documents);
    }

    private static void endBeyondPages() {
        PrintKeeper x = new PrintKeeper();
        Paper.feeds(x, 100);
        x.end();
        Paper.feeds(x, 20);
        x.line(5);
        Check.refused("end of 121", STATE, x::end);
        Check.refused("no such run", INDEX, () -> x.pages(1));
        Check.due("documents", 1, x::documents);
        Check.due("the page stays open", 2, () -> x.line(6));
    }

    private static void endAtPages() {
        PrintKeeper x = new PrintKeeper();
        Paper.feeds(x, 119);
        x.line(5);
        Check.due("end of 120 with a line", 0, x::end);
        Check.due("its pages", 120, () -> x.pages(0));
        PrintKeeper y = new PrintKeeper();
        Paper.feeds(y, 120);
        Check.due("end of 120 behind a page sign", 0, y::end);
        Check.due("its pages", 120, () -> y.pages(0));
    }

    private static void pages() {
        PrintKeeper x = new PrintKeeper();
        x.line(1);
        Check.refused("an open run", INDEX, () -> x.pages(0));
        x.end();
        Paper.run(x, Paper.page(1), Paper.page(), Paper.page(2));
        Check.due("run 0", 1, () -> x.pages(0));
        Check.due("run 1", 3, () -> x.pages(1));
        Check.refused("run 2", INDEX, () -> x.pages(2));
        for (int run : NO_SUCH) {
            Check.refused("run " + run, INDEX, () -> x.pages(run));
            Check.refused("run " + run, INDEX, () -> x.twice(run));
        }
        Check.refused("run 2", INDEX, () -> x.twice(2));
    }

    private static void alike() {
        PrintKeeper x = new PrintKeeper();
        int[][] first = {Paper.page(1, 2, 3), Paper.page(), Paper.page(4)};
        Paper.run(x, Paper.page(9));
        Paper.run(x, first);
        Paper.run(x, first);
        Paper.run(x, Paper.page(9));
        Paper.run(x, first);
        Check.due("run 0", -1, () -> x.twice(0));
        Check.due("run 1", -1, () -> x.twice(1));
        Check.due("run 2", 1, () -> x.twice(2));
        Check.due("run 3", 0, () -> x.twice(3));
        Check.due("run 4, alike to the first", 1, () -> x.twice(4));
        x.reprint(2, 0, 1);
        x.span(2, 0);
        x.pass(1);
        x.clear();
        Check.due("copies and days do not matter", 1, () -> x.twice(2));
    }

    private static void notAlike() {
        PrintKeeper x = new PrintKeeper();
        Paper.run(x, Paper.page(1, 2), Paper.page(3));
        Paper.run(x, Paper.page(1, 2));
        Paper.run(x, Paper.page(1, 2), Paper.page(3), Paper.page(4));
        Paper.run(x, Paper.page(1, 2), Paper.page(4));
        Paper.run(x, Paper.page(1), Paper.page(2, 3));
        Paper.run(x, Paper.page(1, 2, 0), Paper.page(3));
        Paper.run(x, Paper.page(2, 1), Paper.page(3));
        Paper.run(x, Paper.page(1, 2, 3));
        Paper.run(x, Paper.page(1, 2), Paper.page(), Paper.page(3));
        Paper.run(x, Paper.page(0, 2), Paper.page(3));
        for (int i = 0; i < 10; i++) {
            int run = i;
            Check.due("run " + run, -1, () -> x.twice(run));
        }
    }

    private static void sameDay() {
        PrintKeeper x = new PrintKeeper();
        Paper.run(x, Paper.page(1));
        x.line(1);
        x.pass(1);
        x.end();
        Paper.run(x, Paper.page(1));
        Check.due("begun on the day of run 0", -1, () -> x.twice(1));
        Check.due("ended on the day of run 1", 1, () -> x.twice(2));
    }

    private static void reprint() {
        PrintKeeper x = new PrintKeeper();
        Paper.run(x, Paper.page(1), Paper.page(2), Paper.page(3), Paper.page(4));
        Paper.run(x, Paper.page(1));
        Check.due("from the first", 4, () -> x.reprint(0, 0, 1));
        Check.due("from the third", 18, () -> x.reprint(0, 2, 9));
        Check.due("from the last", 2, () -> x.reprint(0, 3, 2));
        int[] due = {2, 2, 11, 13};
        for (int i = 0; i < due.length; i++) {
            int page = i;
            Check.due("copies of page " + page, due[i], () -> x.copies(0, page));
        }
        Check.due("the other run", 1, () -> x.copies(1, 0));
    }

    private static void wrongReprints() {
        PrintKeeper x = new PrintKeeper();
        Paper.run(x, Paper.page(1), Paper.page(2));
        for (int wrong : NO_SUCH) {
            Check.refused("run " + wrong, INDEX, () -> x.reprint(wrong, 0, 1));
            Check.refused("page " + wrong, INDEX, () -> x.reprint(0, wrong, 1));
            Check.refused("copies " + wrong, ARGUMENT, () -> x.reprint(0, 0, wrong));
        }
        Check.refused("run 1", INDEX, () -> x.reprint(1, 0, 1));
        Check.refused("page 2", INDEX, () -> x.reprint(0, 2, 1));
        Check.refused("copies 0", ARGUMENT, () -> x.reprint(0, 1, 0));
        Check.refused("copies 10", ARGUMENT, () -> x.reprint(0, 1, 10));
        Check.refused("run before copies", INDEX, () -> x.reprint(1, 0, 0));
        Check.refused("page before copies", INDEX, () -> x.reprint(0, 2, 10));
        Check.due("page 0", 1, () -> x.copies(0, 0));
        Check.due("page 1", 1, () -> x.copies(0, 1));
    }

    private static void copies() {
        PrintKeeper x = new PrintKeeper();
        x.line(1);
        Check.refused("an open run", INDEX, () -> x.copies(0, 0));
        x.feed();
        x.feed();
        x.end();
        Check.due("a page", 1, () -> x.copies(0, 0));
        Check.due("an empty page", 1, () -> x.copies(0, 1));
        Check.refused("page 2", INDEX, () -> x.copies(0, 2));
        Check.refused("run 1", INDEX, () -> x.copies(1, 0));
        for (int wrong : NO_SUCH) {
            Check.refused("run " + wrong, INDEX, () -> x.copies(wrong, 0));
            Check.refused("page " + wrong, INDEX, () -> x.copies(0, wrong));
        }
        for (int i = 0; i < 100; i++) {
            x.reprint(0, 1, 9);
        }
        Check.due("many copies", 901, () -> x.copies(0, 1));
    }
}
