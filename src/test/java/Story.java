import java.util.ArrayList;
import java.util.Arrays;
import java.util.List;
import java.util.Map;

/**
 * Tests that are told as calls on one new object, split by semicolons:
 * <pre>
 *   line 5 = 1             the answer that is due
 *   line 100 ! argument    the exception that is due
 *   feed                   an answer is due, whatever it is
 *   8 x line 5             the same call eight times
 *   run 5 6 / / 7          the calls for a run of three pages, of which the second is empty; / is a page sign
 * </pre>
 * Numbers may be "min" and "max", truths "true" and "false". Behind a call that is refused, and behind those that
 * only ask, the object must be as if they had not been made.
 */
final class Story {
    /**
     * An object in which a call that is wrongly taken shows: three runs with four, three and two pages, of the days
     * 0, 3 and 3; the documents 0 to 6 of the accounts 5, 6, none, 8, 9, 0 and 99; and a run that is open.
     */
    static final String FILLED = "run 5 1 11 / 5 2 / / 6 3; pass 3; format 3 1 0; run 7 / 4 8 1 / 3 9; run 0 0 / 1 99;"
            + "view 1 6 9 2; view 2 0 98 -1; view 3 99 99 0; span 2 5; span 3 200; hold 6 true; hold 99 true;"
            + "reprint 0 1 2; line 4; feed; line 3; line 2";
    /** A run of 120 pages, each of which begins a document: of the accounts 5 and 6 in turn. */
    static final String DOCUMENTS_120 = "run 5" + " / 6 / 5".repeat(59) + " / 6";

    private static final Map<String, String> EXCEPTIONS = Map.of("argument", "IllegalArgumentException",
            "state", "IllegalStateException", "index", "IndexOutOfBoundsException",
            "element", "NoSuchElementException");
    private static final Map<String, Integer> NUMBERS = Map.of("min", Integer.MIN_VALUE, "max", Integer.MAX_VALUE,
            "true", 1, "false", 0);
    private static final String ANY_ANSWER = "an answer";

    private record Row(Call call, String due) {
        boolean isRefused() {
            return EXCEPTIONS.containsValue(due);
        }
    }

    private Story() {
    }

    static void test(String name, String... parts) {
        Check.test(name, () -> tell(rows(String.join(";", parts))));
    }

    /**
     * Two tests, one for each end of a range: the call, with # for its number, is answered as is due at the end and
     * refused beyond it.
     */
    static void range(String name, String before, String call, int low, int high, String exception) {
        test(name + ": from " + low + " on", before, refused(call, low - 1, exception),
                refused(call, Integer.MIN_VALUE, exception), call.replace("#", String.valueOf(low)));
        test(name + ": up to " + high, before, refused(call, high + 1, exception),
                refused(call, Integer.MAX_VALUE, exception), call.replace("#", String.valueOf(high)));
    }

    /** A test of the looks themselves: what the call, the last one, changes can be seen. */
    static void seen(String name, String before, String call) {
        Check.test(name, () -> {
            List<Call> calls = calls(before);
            List<Call> all = calls(before + ";" + call);
            Check.holds("the change shows", false, () -> Looks.difference(calls, all).isEmpty());
        });
    }

    private static List<Call> calls(String text) {
        List<Call> calls = new ArrayList<>();
        for (Row row : rows(text)) {
            calls.add(row.call());
        }
        return calls;
    }

    private static String refused(String call, int number, String exception) {
        return call.split("=")[0].replace("#", String.valueOf(number)) + " ! " + exception;
    }

    private static void tell(List<Row> rows) {
        Desk desk = new Desk(Desk.CALLS);
        List<Call> all = new ArrayList<>();
        List<Call> changing = new ArrayList<>();
        for (Row row : rows) {
            String got = desk.make(row.call());
            String due = row.due();
            Check.same("call " + all.size() + ", " + row.call(), due,
                    due.equals(ANY_ANSWER) && Call.isNumber(got) ? ANY_ANSWER : got);
            all.add(row.call());
            if (row.isRefused()) {
                String change = Looks.difference(changing, with(changing, row.call()));
                Check.same("what " + row.call() + " changed", "", change);
            } else if (!row.call().asks()) {
                changing.add(row.call());
            }
        }
        Check.same("what all that asks changed", "", Looks.difference(changing, all));
    }

    private static List<Call> with(List<Call> calls, Call last) {
        List<Call> all = new ArrayList<>(calls);
        all.add(last);
        return all;
    }

    private static List<Row> rows(String text) {
        List<Row> rows = new ArrayList<>();
        for (String part : text.split(";")) {
            if (!part.isBlank()) {
                addRows(rows, part.trim().split("\\s+"));
            }
        }
        return rows;
    }

    private static void addRows(List<Row> rows, String[] words) {
        if (words.length > 2 && words[1].equals("x")) {
            int times = Integer.parseInt(words[0]);
            for (int i = 0; i < times; i++) {
                addRows(rows, from(words, 2, words.length));
            }
        } else if (words[0].equals("run")) {
            addRun(rows, words);
        } else {
            rows.add(row(words));
        }
    }

    private static void addRun(List<Row> rows, String[] words) {
        int last = isDue(words) ? words.length - 2 : words.length;
        for (String word : from(words, 1, last)) {
            rows.add(new Row(word.equals("/") ? new Call("feed") : new Call("line", number(word)), ANY_ANSWER));
        }
        String[] end = from(words, last - 1, words.length);
        end[0] = "end";
        rows.add(row(end));
    }

    private static boolean isDue(String[] words) {
        return words.length > 2 && (words[words.length - 2].equals("=") || words[words.length - 2].equals("!"));
    }

    private static Row row(String[] words) {
        int last = isDue(words) ? words.length - 2 : words.length;
        int[] arguments = new int[last - 1];
        for (int i = 0; i < arguments.length; i++) {
            arguments[i] = number(words[i + 1]);
        }
        String due = ANY_ANSWER;
        if (isDue(words)) {
            String word = words[words.length - 1];
            due = words[last].equals("!") ? EXCEPTIONS.get(word) : String.valueOf(number(word));
        }
        return new Row(new Call(words[0], arguments), due);
    }

    private static int number(String word) {
        return NUMBERS.containsKey(word) ? NUMBERS.get(word) : Integer.parseInt(word);
    }

    private static String[] from(String[] words, int first, int last) {
        return Arrays.copyOfRange(words, first, last);
    }
}
