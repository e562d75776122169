import java.util.List;

/** A new keeper with its calls counted and its answers written down, up to a number of calls. */
final class Desk {
    /** What an object answers behind them is free, so no test looks there. */
    static final int CALLS = 512;

    private final PrintKeeper keeper = new PrintKeeper();
    private final StringBuilder told = new StringBuilder();
    private final int calls;
    private int made;
    private int last;

    Desk(int calls) {
        this.calls = calls;
    }

    int left() {
        return calls - made;
    }

    String told() {
        return told.toString();
    }

    String make(Call call) {
        if (left() <= 0) {
            throw new UnsupportedOperationException("more than " + calls + " calls");
        }
        made++;
        return call.answer(keeper);
    }

    void makeAll(List<Call> before) {
        for (Call call : before) {
            make(call);
        }
    }

    /** Makes a call and writes its answer down, as long as there are calls left; returns whether it was answered. */
    boolean look(String name, int... arguments) {
        last = 0;
        if (left() <= 0) {
            return false;
        }
        Call call = new Call(name, arguments);
        String answer = make(call);
        told.append(call).append(" = ").append(answer).append('\n');
        if (!Call.isNumber(answer)) {
            return false;
        }
        last = Integer.parseInt(answer);
        return true;
    }

    /** What the last look answered, 0 if it was refused or not made. */
    int last() {
        return last;
    }
}
