import java.util.ArrayList;
import java.util.List;

/**
 * The boundary cases, each a test of its own that names its promise and its sentence of the document. One that
 * fails does not keep the others from being run.
 */
final class Boundary {
    static final int NONE = -1;
    static final int LEAST = Integer.MIN_VALUE, GREATEST = Integer.MAX_VALUE;
    static final int[] SIZES = {8, 16, 32, 64};

    static final String NEW = "1:1 2:17 3:3 4:4 5:12";
    static final String NEW_STATE = "8 3 1 true; 5 entries 1:1=10 2:17=13 3:3=12 4:4=14 5:12=15; hops 0 3 0 1 3 0 0 0; 1 3 0 6 1";
    /** Three entries of the home 7, which lie in the buckets 7, 0 and 1. */
    static final String ROUND = "table 8 3 1;add 7 1;add 15 2;add 23 3;";
    /** A third key with the same home (they are all 5 modulo 997) has no place with H 2, however many buckets there are. */
    static final String STUCK = "table 8 2 1;add 5 1;add 1002 2;";
    static final String FULL_8 = "table 8 6 1;row 0 1 8;";
    static final String FULL_64 = "table 64 2 1;row 0 1 20;row 20 1 20;row 40 1 20;row 60 1 4;";

    private static final List<Boundary> cases = new ArrayList<>();
    private static final List<String> faults = new ArrayList<>();

    final int promise;
    final String sentence;
    final String what;
    private final Calls calls;

    private Boundary(int promise, String sentence, String what, Calls calls) {
        this.promise = promise;
        this.sentence = sentence;
        this.what = what;
        this.calls = calls;
    }

    interface Calls {
        void make();
    }

    interface Call {
        Object answer();
    }

    static void test(int promise, String sentence, String what, Calls calls) {
        cases.add(new Boundary(promise, sentence, what, calls));
    }

    static List<Boundary> all() {
        cases.clear();
        TableCases.list();
        BuildingCases.list();
        ScriptCases.list();
        UndoCases.list();
        ChangeCases.list();
        QuestionCases.list();
        return cases;
    }

    /** What was not as due. */
    List<String> faultsFound() {
        faults.clear();
        try {
            calls.make();
        } catch (RuntimeException | Error e) {
            faults.add("ended by " + e);
        }
        return faults;
    }

    String name() {
        return "promise " + promise + ", \"" + sentence + "\": " + what;
    }

    // ---- answers

    static void due(String call, Object got, Object want) {
        if (!got.equals(want)) {
            faults.add(call + " answered " + got + ", due is " + want);
        }
    }

    static void due(Object got, Object want) {
        due("it", got, want);
    }

    private static void throwing(String exception, Call call) {
        Object got;
        try {
            got = call.answer();
        } catch (RuntimeException e) {
            got = e.getClass().getSimpleName();
        }
        due(got, exception);
    }

    static void illegal(Call call) {
        throwing("IllegalArgumentException", call);
    }

    static void refused(Call call) {
        throwing("IllegalStateException", call);
    }

    static void missing(Call call) {
        throwing("NoSuchElementException", call);
    }

    static void outside(Call call) {
        throwing("IndexOutOfBoundsException", call);
    }

    // ---- objects

    /** Adds a text to the input; a sign of it is a byte. */
    static void feed(NeighbourHash x, String text) {
        int before = inputLength(x);
        for (int i = 0; i < text.length(); i += 20) {
            int[] w = new int[5];
            for (int j = 0; j < 20; j++) {
                w[j / 4] = w[j / 4] << 8 | (i + j < text.length() ? text.charAt(i + j) : 0);
            }
            x.append(w[0], w[1], w[2], w[3], w[4]);
        }
        x.truncateInput(before + text.length());
    }

    static int run(NeighbourHash x, String script) {
        feed(x, script);
        return x.runScript();
    }

    static NeighbourHash after(String script) {
        NeighbourHash x = new NeighbourHash();
        if (run(x, script) == NONE) {
            faults.add("error " + x.scriptErrorKind() + " at " + x.scriptErrorOffset() + " of " + script);
        }
        return x;
    }

    /** No call tells it alone; afterwards it is the same as before. */
    static int inputLength(NeighbourHash x) {
        int more = x.append(0, 0, 0, 0, 0);
        if (more != NONE) {
            return x.truncateInput(more - 20);
        }
        int length = 600;
        while (length > 580) {
            try {
                return x.truncateInput(length);
            } catch (IllegalArgumentException e) {
                length--;
            }
        }
        return NONE;
    }

    /** The entries as bucket:key. */
    static String places(NeighbourHash x) {
        StringBuilder text = new StringBuilder();
        int buckets = x.bucketCount();
        for (int b = 0; b < buckets; b++) {
            int key = x.keyAt(b);
            if (key != NONE) {
                text.append(text.length() == 0 ? "" : " ").append(b).append(':').append(key);
            }
        }
        return text.toString();
    }

    /** moves, pulls, growths, added, removed */
    static String counters(NeighbourHash x) {
        return x.moves() + " " + x.pulls() + " " + x.growths() + " " + x.addedCount() + " " + x.removedCount();
    }

    static String settings(NeighbourHash x) {
        return x.bucketCount() + " " + x.neighbourhood() + " " + x.multiplier() + " " + x.isPulling();
    }

    /** Everything that undo restores; without the hop bits of a great table, since an object has 512 calls only. */
    static String state(NeighbourHash x) {
        StringBuilder entries = new StringBuilder();
        StringBuilder hops = new StringBuilder("hops");
        int buckets = x.bucketCount();
        for (int b = 0; b < buckets; b++) {
            int key = x.keyAt(b);
            if (key != NONE) {
                entries.append(' ').append(b).append(':').append(key).append('=').append(x.valueAt(b));
            }
            if (buckets <= 16) {
                hops.append(' ').append(x.hopBits(b));
            }
        }
        return settings(x) + "; " + x.entryCount() + " entries" + entries + "; " + hops + "; " + counters(x);
    }

    static String report(NeighbourHash x) {
        StringBuilder text = new StringBuilder();
        int length = x.writeTable();
        for (int i = 0; i < length; i++) {
            text.append((char) x.reportByte(i));
        }
        return text.toString();
    }

    /** The calls that are made change nothing of the object, neither what undo restores nor the rest. */
    static void changesNothing(NeighbourHash x, Calls calls) {
        x.writeTable();
        String before = state(x);
        String rest = x.undoCount() + " " + x.scriptErrorKind() + " " + x.scriptErrorOffset() + " " + inputLength(x) + " " + x.reportByte(0);
        calls.make();
        due("the state", state(x), before);
        due("the rest", x.undoCount() + " " + x.scriptErrorKind() + " " + x.scriptErrorOffset() + " " + inputLength(x) + " " + x.reportByte(0), rest);
    }
}
