/** Promises 11 to 17 with ordinary calls; the boundary cases are in DocumentBoundaries. */
final class DocumentsTest {
    private static final Class<IndexOutOfBoundsException> INDEX = IndexOutOfBoundsException.class;

    private DocumentsTest() {
    }

    static void all() {
        Check.test("11 documents are counted", DocumentsTest::counted);
        Check.test("11 an account goes on over pages", DocumentsTest::goesOn);
        Check.test("11 documents end with their run", DocumentsTest::endWithRun);
        Check.test("11 a document without account", DocumentsTest::lacking);
        Check.test("12 a document is there until it goes", DocumentsTest::there);
        Check.test("13 14 15 account, kind and length stay", DocumentsTest::stay);
        Check.test("14 kinds", DocumentsTest::kinds);
        Check.test("16 by account", DocumentsTest::foundByAccount);
        Check.test("16 by kind", DocumentsTest::foundByKind);
        Check.test("16 by day", DocumentsTest::foundByDay);
        Check.test("16 what a reader sees", DocumentsTest::foundByReader);
        Check.test("17 lines are read", DocumentsTest::read);
        Check.test("17 a blank line", DocumentsTest::readBlank);
    }

    private static void counted() {
        PrintKeeper x = new PrintKeeper();
        Check.due("at first", 0, x::documents);
        x.line(1);
        x.feed();
        Check.due("with an open run", 0, x::documents);
        x.end();
        Check.due("with a run", 1, x::documents);
        x.span(0, 0);
        x.pass(1);
        x.clear();
        Check.due("with a gone one", 1, x::documents);
        Paper.feeds(x, 3);
        x.end();
        Check.due("empty pages make one", 2, x::documents);
    }

    private static void goesOn() {
        PrintKeeper x = new PrintKeeper();
        Paper.run(x, Paper.page(5, 1), Paper.page(5, 2), Paper.page(), Paper.page(5), Paper.page(6),
                Paper.page(), Paper.page(), Paper.page(5), Paper.page(5), Paper.page(0));
        int[] accounts = {5, 6, 5, 0};
        int[] lengths = {4, 3, 2, 1};
        int[] kinds = {1, 0, 0, 0};
        Check.due("documents", 4, x::documents);
        for (int i = 0; i < accounts.length; i++) {
            int document = i;
            Check.due("account " + i, accounts[i], () -> x.account(document));
            Check.due("length " + i, lengths[i], () -> x.length(document));
            Check.due("kind " + i, kinds[i], () -> x.kind(document));
        }
    }

    private static void endWithRun() {
        PrintKeeper x = new PrintKeeper();
        Paper.run(x, Paper.page(5), Paper.page(5));
        Paper.run(x, Paper.page(5), Paper.page(5), Paper.page(5));
        Paper.feeds(x, 2);
        x.end();
        Check.due("documents", 3, x::documents);
        Check.due("length 0", 2, () -> x.length(0));
        Check.due("length 1", 3, () -> x.length(1));
        Check.due("length 2", 2, () -> x.length(2));
        Check.due("account 2", -1, () -> x.account(2));
    }

    private static void lacking() {
        PrintKeeper x = new PrintKeeper();
        x.format(0, 2, 0);
        Paper.run(x, Paper.page(7, 8), Paper.page(), Paper.page(1, 2, 3), Paper.page(1, 2), Paper.page(0, 0, 3));
        Check.due("documents", 2, x::documents);
        Check.due("account 0", -1, () -> x.account(0));
        Check.due("kind 0", 3, () -> x.kind(0));
        Check.due("length 0", 2, () -> x.length(0));
        Check.due("account 1", 3, () -> x.account(1));
        Check.due("kind 1", 1, () -> x.kind(1));
        Check.due("length 1", 3, () -> x.length(1));
    }

    private static void there() {
        PrintKeeper x = new PrintKeeper();
        Paper.run(x, Paper.page(5, 2), Paper.page(6, 3));
        x.span(2, 0);
        x.pass(1);
        Check.holds("before it is cleared", true, () -> x.isThere(0));
        x.clear();
        Check.holds("cleared", false, () -> x.isThere(0));
        Check.holds("the other", true, () -> x.isThere(1));
        x.span(2, 9999);
        Check.holds("it stays gone", false, () -> x.isThere(0));
    }

    private static void stay() {
        PrintKeeper x = new PrintKeeper();
        Paper.run(x, Paper.page(5, 2), Paper.page(5));
        x.span(2, 0);
        x.pass(1);
        Check.due("clear", 1, x::clear);
        Check.due("account", 5, () -> x.account(0));
        Check.due("kind", 2, () -> x.kind(0));
        Check.due("length", 2, () -> x.length(0));
    }

    private static void kinds() {
        PrintKeeper x = new PrintKeeper();
        int[] values = {0, 1, 2, 3, 4, 7, 98, 99};
        int[] due = {0, 1, 2, 3, 0, 3, 2, 3};
        for (int i = 0; i < values.length; i++) {
            int document = i;
            Paper.run(x, Paper.page(5, values[i]));
            Check.due("kind of " + values[i], due[i], () -> x.kind(document));
        }
        Paper.run(x, Paper.page(5), Paper.page(5, 3));
        Check.due("only its first page tells", 0, () -> x.kind(8));
    }

    private static PrintKeeper someDocuments() {
        PrintKeeper x = new PrintKeeper();
        Paper.run(x, Paper.page(), Paper.page(5, 1), Paper.page(6, 2));
        x.pass(10);
        Paper.run(x, Paper.page(5, 2), Paper.page(7, 1), Paper.page(5, 1), Paper.page(0, 3));
        x.pass(10);
        Paper.run(x, Paper.page(), Paper.page(99, 1));
        return x;
    }

    private static void dueFound(PrintKeeper x, int[] search, int... documents) {
        String what = "reader " + search[0] + " account " + search[1] + " kind " + search[2] + " day " + search[3];
        for (int i = 0; i < documents.length; i++) {
            int index = i;
            Check.due(what + " index " + i, documents[i],
                    () -> x.found(search[0], search[1], search[2], search[3], index));
        }
        for (int index : new int[] {documents.length, -1, Integer.MIN_VALUE, Integer.MAX_VALUE}) {
            Check.refused(what + " index " + index, INDEX,
                    () -> x.found(search[0], search[1], search[2], search[3], index));
        }
    }

    private static int[] search(int... parts) {
        return parts;
    }

    private static void foundByAccount() {
        PrintKeeper x = someDocuments();
        dueFound(x, search(0, -1, -1, 0), 0, 1, 2, 3, 4, 5, 6, 7, 8);
        dueFound(x, search(0, 5, -1, 0), 1, 3, 5);
        dueFound(x, search(0, 0, -1, 0), 6);
        dueFound(x, search(0, 99, -1, 0), 8);
        dueFound(x, search(0, 42, -1, 0));
    }

    private static void foundByKind() {
        PrintKeeper x = someDocuments();
        dueFound(x, search(0, -1, 0, 0), 0, 7);
        dueFound(x, search(0, -1, 1, 0), 1, 4, 5, 8);
        dueFound(x, search(0, 5, 2, 0), 3);
        dueFound(x, search(0, -1, 3, 0), 6);
        dueFound(x, search(0, 5, 3, 0));
    }

    private static void foundByDay() {
        PrintKeeper x = someDocuments();
        dueFound(x, search(0, -1, -1, 1), 3, 4, 5, 6, 7, 8);
        dueFound(x, search(0, -1, -1, 10), 3, 4, 5, 6, 7, 8);
        dueFound(x, search(0, -1, -1, 11), 7, 8);
        dueFound(x, search(0, -1, 1, 20), 8);
        dueFound(x, search(0, -1, -1, 21));
        dueFound(x, search(0, -1, -1, 9999));
    }

    private static void foundByReader() {
        PrintKeeper x = someDocuments();
        for (int reader = 1; reader <= 3; reader++) {
            dueFound(x, search(reader, -1, -1, 0), 1, 2, 3, 4, 5, 6, 8);
        }
        x.view(2, 6, 7, 0);
        dueFound(x, search(2, -1, -1, 0), 2, 4);
        dueFound(x, search(2, 5, -1, 0));
        x.view(0, 6, 6, -1);
        dueFound(x, search(0, -1, -1, 0), 0, 2, 7);
        x.pass(91);
        x.clear();
        dueFound(x, search(0, -1, -1, 0), 7);
        dueFound(x, search(1, -1, -1, 0), 8);
    }

    private static void read() {
        PrintKeeper x = new PrintKeeper();
        Paper.run(x, Paper.page(), Paper.page(5, 1, 11), Paper.page(5, 2, 22, 33), Paper.page(6));
        Check.due("line 0", 5, () -> x.read(0, 1, 0, 0));
        Check.due("line 2", 11, () -> x.read(1, 1, 0, 2));
        Check.due("the second page", 33, () -> x.read(2, 1, 1, 3));
        Check.due("another document", 6, () -> x.read(3, 2, 0, 0));
        Check.refused("a page of another document", INDEX, () -> x.read(0, 1, 2, 0));
        Check.refused("a line beyond the page", INDEX, () -> x.read(0, 1, 0, 3));
        Check.refused("a line of an empty page", INDEX, () -> x.read(0, 0, 0, 0));
    }

    private static void readBlank() {
        PrintKeeper x = new PrintKeeper();
        Paper.run(x, Paper.page(5, 1, 11), Paper.page(5));
        x.view(1, 0, 99, 2);
        Check.due("the blank line", -1, () -> x.read(1, 0, 0, 2));
        Check.due("another line", 1, () -> x.read(1, 0, 0, 1));
        Check.refused("a blank line that is lacking", INDEX, () -> x.read(1, 0, 1, 2));
        Check.due("another reader", 11, () -> x.read(2, 0, 0, 2));
        x.view(1, 0, 99, 0);
        Check.due("line 0 blank", -1, () -> x.read(1, 0, 1, 0));
        x.view(1, 0, 99, -1);
        Check.due("none blank any more", 11, () -> x.read(1, 0, 0, 2));
        Paper.run(x, Paper.page(), Paper.page(5));
        x.format(0, 7, 7);
        Paper.run(x, Paper.page(4, 4));
        x.view(0, 0, 0, 1);
        Check.due("a document without account", -1, () -> x.read(0, 3, 0, 1));
    }
}
