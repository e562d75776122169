import java.util.ArrayList;
import java.util.List;

/**
 * Looks at all that can be seen of an object: two objects with the same answers in every look count as the same.
 * A look may change the object, so each one gets an object of its own.
 */
final class Looks {
    private interface Look {
        void at(Desk desk);
    }

    private static final List<Look> ALL = List.of(Looks::runs, Looks::copies, Looks::documents, Looks::lines,
            desk -> reader(desk, 0), desk -> reader(desk, 1), desk -> reader(desk, 2), desk -> reader(desk, 3),
            Looks::spansAndHolds, Looks::openPage, Looks::end, Looks::days, Looks::formats, Looks::lastFormat,
            desk -> clearing(desk, 0), desk -> clearing(desk, 1), desk -> clearing(desk, 101));

    /** Those next to which the tests set their views. */
    private static final int[] ACCOUNTS = {0, 1, 5, 6, 7, 8, 9, 10, 98, 99};

    private Looks() {
    }

    /** Tells where the two objects differ that come of these calls, "" if nowhere. */
    static String difference(List<Call> calls, List<Call> others) {
        int room = Desk.CALLS - Math.max(calls.size(), others.size());
        for (Look look : ALL) {
            String told = told(look, calls, room);
            String otherTold = told(look, others, room);
            if (!told.equals(otherTold)) {
                return firstDifference(told.split("\n"), otherTold.split("\n"));
            }
        }
        return "";
    }

    private static String told(Look look, List<Call> calls, int room) {
        Desk desk = new Desk(calls.size() + room);
        desk.makeAll(calls);
        look.at(desk);
        return desk.told();
    }

    private static String firstDifference(String[] rows, String[] others) {
        int same = 0;
        while (same < rows.length && same < others.length && rows[same].equals(others[same])) {
            same++;
        }
        return rowAt(rows, same) + " but " + rowAt(others, same);
    }

    private static String rowAt(String[] rows, int row) {
        return row < rows.length ? rows[row] : "the end";
    }

    private static void runs(Desk desk) {
        int run = 0;
        while (desk.look("pages", run)) {
            desk.look("twice", run);
            run++;
        }
    }

    private static void copies(Desk desk) {
        int run = 0;
        while (desk.look("copies", run, 0)) {
            int page = 1;
            while (desk.look("copies", run, page)) {
                page++;
            }
            run++;
        }
    }

    private static void documents(Desk desk) {
        desk.look("documents");
        int document = 0;
        while (desk.look("isThere", document)) {
            desk.look("account", document);
            desk.look("kind", document);
            desk.look("length", document);
            document++;
        }
    }

    /** From the newest document on, as what a refused call has changed would rather show there. */
    private static void lines(Desk desk) {
        desk.look("documents");
        for (int document = desk.last() - 1; document >= 0; document--) {
            desk.look("length", document);
            int pages = desk.last();
            for (int page = 0; page < pages; page++) {
                int line = 0;
                while (desk.look("read", 0, document, page, line)) {
                    line++;
                }
            }
        }
    }

    /** With new documents, too, as a view may change nothing of those that are there. */
    private static void reader(Desk desk, int reader) {
        seen(desk, reader);
        for (int account : ACCOUNTS) {
            desk.look("feed");
            for (int line = 0; line < 8; line++) {
                desk.look("line", account);
            }
        }
        desk.look("end");
        seen(desk, reader);
    }

    private static void seen(Desk desk, int reader) {
        List<Integer> documents = new ArrayList<>();
        while (desk.look("found", reader, -1, -1, 0, documents.size())) {
            documents.add(desk.last());
        }
        for (int document : documents) {
            for (int line = 0; line < 8; line++) {
                desk.look("read", reader, document, 0, line);
            }
            desk.look("account", document);
            desk.look("bundle", reader, desk.last());
        }
    }

    private static void spansAndHolds(Desk desk) {
        for (int kind = 0; kind <= 3; kind++) {
            desk.look("span", kind, 50);
        }
        for (int account = 0; account <= 99; account++) {
            desk.look("hold", account, 0);
        }
    }

    private static void openPage(Desk desk) {
        desk.look("line", 50);
        desk.look("feed");
        desk.look("line", 51);
        desk.look("feed");
        end(desk);
    }

    private static void end(Desk desk) {
        desk.look("end");
        runs(desk);
        lines(desk);
    }

    private static void days(Desk desk) {
        desk.look("pass", 1);
        for (int step = 1000; step > 0; step /= 10) {
            while (desk.look("pass", step)) {
                desk.look("clear");
            }
        }
    }

    private static void formats(Desk desk) {
        while (desk.look("format", 9999, 0, 0)) {
            desk.look("documents");
        }
        for (int i = 0; i < 3; i++) {
            formatOfTheDay(desk);
            desk.look("pass", 1);
        }
    }

    private static void lastFormat(Desk desk) {
        days(desk);
        formatOfTheDay(desk);
    }

    /** Two runs of a page, as the four kinds alone can't tell eight lines from one another. */
    private static void formatOfTheDay(Desk desk) {
        wholePage(desk, 20, 31, 42, 53, 60, 71, 82, 93);
        wholePage(desk, 20, 32, 44, 56, 61, 73, 85, 97);
    }

    private static void wholePage(Desk desk, int... values) {
        desk.look("feed");
        for (int value : values) {
            desk.look("line", value);
        }
        desk.look("end");
        desk.look("documents");
        int document = desk.last() - 1;
        desk.look("account", document);
        desk.look("kind", document);
    }

    private static void clearing(Desk desk, int days) {
        desk.look("pass", days);
        desk.look("clear");
        int document = 0;
        while (desk.look("isThere", document)) {
            document++;
        }
    }
}
