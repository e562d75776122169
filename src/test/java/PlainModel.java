import java.util.ArrayList;
import java.util.LinkedHashMap;
import java.util.List;
import java.util.Map;
import java.util.TreeSet;

/**
 * The document once more, told as plainly as can be: only what came is kept, and every answer is worked out anew.
 * Answers are texts: a number, or the simple name of an exception.
 */
final class PlainModel {
    private static final String ARGUMENT = "IllegalArgumentException";
    private static final String STATE = "IllegalStateException";
    private static final String INDEX = "IndexOutOfBoundsException";
    private static final String ELEMENT = "NoSuchElementException";

    private record EndedRun(int day, List<List<Integer>> pages, int accountLine, int kindLine) {
    }

    private record Found(int run, int first, int length, int account, int kind) {
    }

    private int today = 0;
    private final List<int[]> told = new ArrayList<>();
    private final List<EndedRun> runs = new ArrayList<>();
    private final List<List<Integer>> closed = new ArrayList<>();
    private final List<Integer> openLines = new ArrayList<>();
    private final Map<String, Integer> reprints = new LinkedHashMap<>();
    private final TreeSet<Integer> gone = new TreeSet<>();
    private final int[][] views = {{0, 99, -1}, {0, 99, -1}, {0, 99, -1}, {0, 99, -1}};
    private final int[] spans = {100, 100, 100, 100};
    private final TreeSet<Integer> held = new TreeSet<>();

    String answer(String call, int[] a) {
        switch (call) {
            case "pass": return pass(a[0]);
            case "format": return format(a[0], a[1], a[2]);
            case "line": return line(a[0]);
            case "feed": return feed();
            case "end": return end();
            case "pages": return isRun(a[0]) ? text(runs.get(a[0]).pages().size()) : INDEX;
            case "twice": return isRun(a[0]) ? text(twice(a[0])) : INDEX;
            case "reprint": return reprint(a[0], a[1], a[2]);
            case "copies": return isPage(a[0], a[1]) ? text(1 + reprints.getOrDefault(a[0] + "/" + a[1], 0)) : INDEX;
            case "documents": return text(found().size());
            case "isThere": return isDocument(a[0]) ? text(gone.contains(a[0]) ? 0 : 1) : INDEX;
            case "account": return isDocument(a[0]) ? text(found().get(a[0]).account()) : INDEX;
            case "kind": return isDocument(a[0]) ? text(found().get(a[0]).kind()) : INDEX;
            case "length": return isDocument(a[0]) ? text(found().get(a[0]).length()) : INDEX;
            case "found": return search(a);
            case "read": return read(a[0], a[1], a[2], a[3]);
            case "view": return view(a);
            case "span": return span(a[0], a[1]);
            case "hold": return hold(a[0], a[1] != 0);
            case "clear": return clear();
            case "bundle": return bundle(a[0], a[1]);
            default: throw new IllegalStateException(call);
        }
    }

    private static String text(int number) {
        return String.valueOf(number);
    }

    private static boolean out(int value, int low, int high) {
        return !(low <= value && value <= high);
    }

    private int keptPages() {
        return runs.stream().mapToInt(r -> r.pages().size()).sum();
    }

    private boolean isRun(int run) {
        return !out(run, 0, runs.size() - 1);
    }

    private boolean isPage(int run, int page) {
        return isRun(run) && !out(page, 0, runs.get(run).pages().size() - 1);
    }

    private boolean isDocument(int document) {
        return !out(document, 0, found().size() - 1);
    }

    private List<Found> found() {
        List<Found> all = new ArrayList<>();
        for (int r = 0; r < runs.size(); r++) {
            EndedRun run = runs.get(r);
            int start = 0;
            while (start < run.pages().size()) {
                Integer account = at(run.pages().get(start), run.accountLine());
                int next = start + 1;
                while (next < run.pages().size()) {
                    Integer other = at(run.pages().get(next), run.accountLine());
                    if (other != null && !other.equals(account)) {
                        break;
                    }
                    next++;
                }
                Integer kind = at(run.pages().get(start), run.kindLine());
                all.add(new Found(r, start, next - start, account == null ? -1 : account, kind == null ? 0 : kind % 4));
                start = next;
            }
        }
        return all;
    }

    private static Integer at(List<Integer> page, int line) {
        return line < page.size() ? page.get(line) : null;
    }

    private String pass(int days) {
        if (out(days, 1, 1000)) {
            return ARGUMENT;
        }
        if (today + days > 9999) {
            return STATE;
        }
        today += days;
        return text(today);
    }

    private String format(int day, int account, int kind) {
        if (out(day, 0, 9999) || out(account, 0, 7) || out(kind, 0, 7)) {
            return ARGUMENT;
        }
        if (told.size() == 10) {
            return STATE;
        }
        told.add(new int[] {day, account, kind});
        return text(told.size());
    }

    private String line(int value) {
        if (out(value, 0, 99)) {
            return ARGUMENT;
        }
        if (openLines.size() == 8) {
            return STATE;
        }
        openLines.add(value);
        return text(openLines.size());
    }

    private String feed() {
        if (keptPages() + closed.size() == 120) {
            return STATE;
        }
        closed.add(List.copyOf(openLines));
        openLines.clear();
        return text(closed.size());
    }

    private String end() {
        List<List<Integer>> pages = new ArrayList<>(closed);
        if (!openLines.isEmpty()) {
            pages.add(List.copyOf(openLines));
        }
        if (pages.isEmpty() || runs.size() == 15 || keptPages() + pages.size() > 120) {
            return STATE;
        }
        int[] format = {0, 0, 1};
        for (int day = 0; day <= today; day++) {
            for (int[] one : told) {
                if (one[0] == day) {
                    format = one;
                }
            }
        }
        runs.add(new EndedRun(today, pages, format[1], format[2]));
        closed.clear();
        openLines.clear();
        return text(runs.size() - 1);
    }

    private int twice(int run) {
        for (int i = 0; i < run; i++) {
            if (runs.get(i).day() == runs.get(run).day() && runs.get(i).pages().equals(runs.get(run).pages())) {
                return i;
            }
        }
        return -1;
    }

    private String reprint(int run, int page, int copies) {
        if (!isPage(run, page)) {
            return INDEX;
        }
        if (out(copies, 1, 9)) {
            return ARGUMENT;
        }
        int last = runs.get(run).pages().size();
        for (int p = page; p < last; p++) {
            reprints.merge(run + "/" + p, copies, Integer::sum);
        }
        return text((last - page) * copies);
    }

    private boolean sees(int reader, int document) {
        int account = found().get(document).account();
        if (gone.contains(document)) {
            return false;
        }
        return account == -1 ? reader == 0 : !out(account, views[reader][0], views[reader][1]);
    }

    private String search(int[] a) {
        if (out(a[0], 0, 3) || out(a[1], -1, 99) || out(a[2], -1, 3) || out(a[3], 0, 9999)) {
            return ARGUMENT;
        }
        List<Integer> hits = new ArrayList<>();
        List<Found> all = found();
        for (int i = 0; i < all.size(); i++) {
            Found one = all.get(i);
            if (sees(a[0], i) && (a[1] == -1 || a[1] == one.account()) && (a[2] == -1 || a[2] == one.kind())
                    && runs.get(one.run()).day() >= a[3]) {
                hits.add(i);
            }
        }
        return out(a[4], 0, hits.size() - 1) ? INDEX : text(hits.get(a[4]));
    }

    private String read(int reader, int document, int page, int line) {
        if (out(reader, 0, 3)) {
            return ARGUMENT;
        }
        if (!isDocument(document)) {
            return INDEX;
        }
        Found one = found().get(document);
        if (out(page, 0, one.length() - 1)) {
            return INDEX;
        }
        List<Integer> lines = runs.get(one.run()).pages().get(one.first() + page);
        if (out(line, 0, lines.size() - 1)) {
            return INDEX;
        }
        if (!sees(reader, document)) {
            return ELEMENT;
        }
        return text(views[reader][2] == line ? -1 : lines.get(line));
    }

    private String view(int[] a) {
        if (out(a[0], 0, 3) || out(a[1], 0, 99) || out(a[2], 0, 99) || a[2] < a[1] || out(a[3], -1, 7)) {
            return ARGUMENT;
        }
        views[a[0]] = new int[] {a[1], a[2], a[3]};
        return "0";
    }

    private String span(int kind, int days) {
        if (out(kind, 0, 3) || out(days, 0, 9999)) {
            return ARGUMENT;
        }
        int before = spans[kind];
        spans[kind] = days;
        return text(before);
    }

    private String hold(int account, boolean on) {
        if (out(account, 0, 99)) {
            return ARGUMENT;
        }
        boolean changed = on ? held.add(account) : held.remove(account);
        return text(changed != on ? 1 : 0);
    }

    private String clear() {
        int before = gone.size();
        List<Found> all = found();
        for (int i = 0; i < all.size(); i++) {
            Found one = all.get(i);
            int age = today - runs.get(one.run()).day();
            if (age > spans[one.kind()] && !held.contains(one.account())) {
                gone.add(i);
            }
        }
        return text(gone.size() - before);
    }

    private String bundle(int reader, int account) {
        if (out(reader, 0, 3) || out(account, 0, 99)) {
            return ARGUMENT;
        }
        int sum = 0;
        List<Found> all = found();
        for (int i = 0; i < all.size(); i++) {
            if (all.get(i).account() == account && sees(reader, i)) {
                sum += all.get(i).length();
            }
        }
        return text(sum);
    }
}
