import java.util.ArrayList;
import java.util.Arrays;
import java.util.NoSuchElementException;

/** A keeper of printed runs; README.md tells how it is used and built. */
public final class PrintKeeper {

    /** Stands for an account or a line that is lacking, and for "any" in a search. */
    private static final int NONE = -1;

    private static final int LAST_DAY = 9999;
    private static final int LONGEST_PASS = 1000;
    private static final int MOST_FORMATS = 10;
    private static final int MOST_RUNS = 15;
    private static final int MOST_PAGES = 120;
    private static final int LINES = 8;
    private static final int LAST_VALUE = 99;
    private static final int LAST_ACCOUNT = LAST_VALUE;
    private static final int MOST_COPIES = 9;
    private static final int KINDS = 4;
    private static final int READERS = 4;
    private static final int FIRST_SPAN = 100;

    private int day;
    private final Format usual = new Format(0, 0, 1);
    private final ArrayList<Format> formats = new ArrayList<>();

    private final ArrayList<Run> runs = new ArrayList<>();
    private int pagesKept;
    private Run open = new Run();
    private Page openPage = new Page();

    private final ArrayList<Document> documents = new ArrayList<>();

    private final ArrayList<Reader> readers = new ArrayList<>();
    private final int[] spans = new int[KINDS];
    private final boolean[] heldAccounts = new boolean[LAST_ACCOUNT + 1];

    public PrintKeeper() {
        for (int i = 0; i < READERS; i++) {
            readers.add(new Reader(i == 0));
        }
        Arrays.fill(spans, FIRST_SPAN);
    }

    // ---- days and formats

    public int pass(int days) throws IllegalArgumentException, IllegalStateException {
        demandRange(days, 1, LONGEST_PASS);
        if (day + days > LAST_DAY) {
            throw new IllegalStateException("the days end at 9999");
        }
        day += days;
        return day;
    }

    public int format(int day, int account, int kind)
            throws IllegalArgumentException, IllegalStateException {
        demandRange(day, 0, LAST_DAY);
        demandRange(account, 0, LINES - 1);
        demandRange(kind, 0, LINES - 1);
        if (formats.size() >= MOST_FORMATS) {
            throw new IllegalStateException("10 formats are told");
        }
        formats.add(new Format(day, account, kind));
        return formats.size();
    }

    // ---- runs

    public int line(int value) throws IllegalArgumentException, IllegalStateException {
        demandRange(value, 0, LAST_VALUE);
        if (!openPage.put(value)) {
            throw new IllegalStateException("the page has 8 lines");
        }
        return openPage.count;
    }

    public int feed() throws IllegalStateException {
        if (pagesKept + open.pages.size() + 1 > MOST_PAGES) {
            throw new IllegalStateException("120 pages are kept");
        }
        closePage();
        return open.pages.size();
    }

    public int end() throws IllegalStateException {
        int pagesThen = open.pages.size() + (openPage.isEmpty() ? 0 : 1);
        if (pagesThen == 0) {
            throw new IllegalStateException("the run would have no pages");
        }
        if (runs.size() >= MOST_RUNS) {
            throw new IllegalStateException("15 runs are kept");
        }
        if (pagesKept + pagesThen > MOST_PAGES) {
            throw new IllegalStateException("120 pages are kept");
        }
        if (!openPage.isEmpty()) {
            closePage();
        }
        keepOpenRun();
        return runs.size() - 1;
    }

    public int pages(int run) throws IndexOutOfBoundsException {
        return runAt(run).pages.size();
    }

    public int twice(int run) throws IndexOutOfBoundsException {
        Run asked = runAt(run);
        for (int i = 0; i < run && i < runs.size(); i++) {
            if (asked.isLike(runs.get(i))) {
                return i;
            }
        }
        return NONE;
    }

    public int reprint(int run, int page, int copies)
            throws IndexOutOfBoundsException, IllegalArgumentException {
        Run asked = runAt(run);
        demandPage(asked, page);
        demandRange(copies, 1, MOST_COPIES);
        int printed = 0;
        for (int i = page; i < asked.pages.size(); i++) {
            asked.pages.get(i).copies += copies;
            printed += copies;
        }
        return printed;
    }

    public int copies(int run, int page) throws IndexOutOfBoundsException {
        return pageAt(runAt(run), page).copies;
    }

    // ---- documents

    public int documents() {
        return documents.size();
    }

    public boolean isThere(int document) throws IndexOutOfBoundsException {
        return !documentAt(document).gone;
    }

    public int account(int document) throws IndexOutOfBoundsException {
        return documentAt(document).account;
    }

    public int kind(int document) throws IndexOutOfBoundsException {
        return documentAt(document).kind;
    }

    public int length(int document) throws IndexOutOfBoundsException {
        return documentAt(document).pageCount;
    }

    public int found(int reader, int account, int kind, int day, int index)
            throws IllegalArgumentException, IndexOutOfBoundsException {
        Reader asking = readerAt(reader);
        demandRange(account, NONE, LAST_ACCOUNT);
        demandRange(kind, NONE, KINDS - 1);
        demandRange(day, 0, LAST_DAY);
        int before = 0;
        for (int i = 0; i < documents.size(); i++) {
            Document document = documents.get(i);
            if (asking.sees(document) && document.fits(account, kind, day)) {
                if (before == index) {
                    return i;
                }
                before++;
            }
        }
        throw new IndexOutOfBoundsException("no such document is found");
    }

    public int read(int reader, int document, int page, int line)
            throws IllegalArgumentException, IndexOutOfBoundsException, NoSuchElementException {
        Reader asking = readerAt(reader);
        Document asked = documentAt(document);
        Page paper = pageOf(asked, page);
        if (!paper.has(line)) {
            throw new IndexOutOfBoundsException("no such line");
        }
        if (!asking.sees(asked)) {
            throw new NoSuchElementException("the reader does not see the document");
        }
        return line == asking.blank ? NONE : paper.valueAt(line);
    }

    // ---- readers, spans, holds

    public void view(int reader, int first, int last, int blank) throws IllegalArgumentException {
        Reader asking = readerAt(reader);
        demandRange(first, 0, LAST_ACCOUNT);
        demandRange(last, first, LAST_ACCOUNT);
        demandRange(blank, NONE, LINES - 1);
        asking.first = first;
        asking.last = last;
        asking.blank = blank;
    }

    public int span(int kind, int days) throws IllegalArgumentException {
        if (!isKind(kind)) {
            throw new IllegalArgumentException("no such kind");
        }
        demandRange(days, 0, LAST_DAY);
        int before = spans[kind];
        spans[kind] = days;
        return before;
    }

    public boolean hold(int account, boolean held) throws IllegalArgumentException {
        if (!isAccount(account)) {
            throw new IllegalArgumentException("no such account");
        }
        boolean before = heldAccounts[account];
        heldAccounts[account] = held;
        return before;
    }

    public int clear() {
        int going = 0;
        for (int i = 0; i < documents.size(); i++) {
            Document document = documents.get(i);
            if (!document.gone && isOver(document) && !isHeld(document)) {
                document.gone = true;
                going++;
            }
        }
        return going;
    }

    public int bundle(int reader, int account) throws IllegalArgumentException {
        Reader asking = readerAt(reader);
        demandRange(account, 0, LAST_ACCOUNT);
        int sum = 0;
        for (int i = 0; i < documents.size(); i++) {
            Document document = documents.get(i);
            if (document.account == account && asking.sees(document)) {
                sum += document.pageCount;
            }
        }
        return sum;
    }

    // ---- arguments

    private static void demandRange(int value, int first, int last) {
        if (value < first || value > last) {
            throw new IllegalArgumentException("out of range");
        }
    }

    private static void demandPage(Run run, int page) {
        if (page < 0 || page >= run.pages.size()) {
            throw new IndexOutOfBoundsException("no such page");
        }
    }

    private boolean isKind(int kind) {
        return kind >= 0 && kind < spans.length;
    }

    private boolean isAccount(int account) {
        return account >= 0 && account < heldAccounts.length;
    }

    private Run runAt(int run) {
        if (run < 0 || run >= runs.size()) {
            throw new IndexOutOfBoundsException("no such run");
        }
        return runs.get(run);
    }

    private static Page pageAt(Run run, int page) {
        demandPage(run, page);
        return run.pages.get(page);
    }

    private Document documentAt(int document) {
        if (document < 0 || document >= documents.size()) {
            throw new IndexOutOfBoundsException("no such document");
        }
        return documents.get(document);
    }

    private static Page pageOf(Document document, int page) {
        if (page < 0 || page >= document.pageCount) {
            throw new IndexOutOfBoundsException("no such page");
        }
        return pageAt(document.run, document.firstPage + page);
    }

    private Reader readerAt(int reader) {
        if (reader < 0 || reader >= readers.size()) {
            throw new IllegalArgumentException("no such reader");
        }
        return readers.get(reader);
    }

    // ---- putting together

    private void closePage() {
        open.pages.add(openPage);
        openPage = new Page();
    }

    private void keepOpenRun() {
        open.day = day;
        runs.add(open);
        pagesKept += open.pages.size();
        putTogether(open);
        open = new Run();
    }

    private void putTogether(Run run) {
        Format format = formatOn(run.day);
        Document last = null;
        for (int i = 0; i < run.pages.size(); i++) {
            Page page = run.pages.get(i);
            int account = page.valueAt(format.accountLine);
            if (last == null || (account != NONE && account != last.account)) {
                last = new Document(run, i, account, kindOf(page, format));
                documents.add(last);
            }
            last.pageCount++;
        }
    }

    private static int kindOf(Page page, Format format) {
        return page.has(format.kindLine) ? page.valueAt(format.kindLine) % KINDS : 0;
    }

    private Format formatOn(int runDay) {
        Format latest = usual;
        for (int i = 0; i < formats.size(); i++) {
            Format told = formats.get(i);
            // Not "later than" alone: of the same day, the one told last counts.
            if (told.day <= runDay && told.day >= latest.day) {
                latest = told;
            }
        }
        return latest;
    }

    // ---- going

    private boolean isOver(Document document) {
        return isKind(document.kind) && day > document.run.day + spans[document.kind];
    }

    private boolean isHeld(Document document) {
        return isAccount(document.account) && heldAccounts[document.account];
    }

    /** At which lines the account and the kind stand from a day on. */
    private static final class Format {
        private final int day;
        private final int accountLine;
        private final int kindLine;

        private Format(int day, int accountLine, int kindLine) {
            this.day = day;
            this.accountLine = accountLine;
            this.kindLine = kindLine;
        }
    }

    private static final class Page {
        private final int[] values = new int[LINES];
        private int count;
        private int copies = 1;

        private boolean isEmpty() {
            return count == 0;
        }

        /** Returns whether there was room for the value. */
        private boolean put(int value) {
            if (count < 0 || count >= values.length) {
                return false;
            }
            values[count] = value;
            count++;
            return true;
        }

        private boolean has(int line) {
            return line >= 0 && line < count && line < values.length;
        }

        private int valueAt(int line) {
            return has(line) ? values[line] : NONE;
        }

        private boolean hasLinesOf(Page other) {
            if (count != other.count) {
                return false;
            }
            for (int i = 0; i < count; i++) {
                if (valueAt(i) != other.valueAt(i)) {
                    return false;
                }
            }
            return true;
        }
    }

    private static final class Run {
        private final ArrayList<Page> pages = new ArrayList<>();
        private int day;

        private boolean isLike(Run other) {
            if (day != other.day || pages.size() != other.pages.size()) {
                return false;
            }
            for (int i = 0; i < pages.size() && i < other.pages.size(); i++) {
                if (!pages.get(i).hasLinesOf(other.pages.get(i))) {
                    return false;
                }
            }
            return true;
        }
    }

    /** Some pages of a run, one behind the other. */
    private static final class Document {
        private final Run run;
        private final int firstPage;
        private final int account;
        private final int kind;
        private int pageCount;
        private boolean gone;

        private Document(Run run, int firstPage, int account, int kind) {
            this.run = run;
            this.firstPage = firstPage;
            this.account = account;
            this.kind = kind;
        }

        private boolean fits(int anyOrAccount, int anyOrKind, int earliestDay) {
            return (anyOrAccount == NONE || anyOrAccount == account)
                    && (anyOrKind == NONE || anyOrKind == kind)
                    && run.day >= earliestDay;
        }
    }

    private static final class Reader {
        private final boolean seesLackingAccounts;
        private int first = 0;
        private int last = LAST_ACCOUNT;
        private int blank = NONE;

        private Reader(boolean seesLackingAccounts) {
            this.seesLackingAccounts = seesLackingAccounts;
        }

        private boolean sees(Document document) {
            if (document.gone) {
                return false;
            }
            if (document.account == NONE) {
                return seesLackingAccounts;
            }
            return document.account >= first && document.account <= last;
        }
    }
}
