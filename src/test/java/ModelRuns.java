import java.util.ArrayDeque;
import java.util.ArrayList;
import java.util.Collections;
import java.util.Deque;
import java.util.List;
import java.util.NoSuchElementException;
import java.util.Random;
import java.util.TreeMap;

/**
 * Runs of many calls, each answer compared with that of a second program, which is written from the
 * document's words alone and as slowly as they are: no hop bits, every distance counted anew.
 */
public final class ModelRuns {
    private static final int RUNS = 1500;
    private static final int CALLS = 512;

    private static int wrong = 0;
    private static final TreeMap<String, Integer> met = new TreeMap<>();

    private static void meet(String what) {
        met.merge(what, 1, Integer::sum);
    }

    /** The exception that is due, by its short name. */
    private static final class Refused extends RuntimeException {
        private static final long serialVersionUID = 1;
        final String name;

        Refused(String name) {
            super(name);
            this.name = name;
        }
    }

    private static final class ScriptError extends RuntimeException {
        private static final long serialVersionUID = 1;
        final int kind;
        final int offset;

        ScriptError(int kind, int offset) {
            this.kind = kind;
            this.offset = offset;
        }
    }

    private static void illegalArgumentIf(boolean condition) {
        if (condition) {
            throw new Refused("IllegalArgumentException");
        }
    }

    private static final class Entry {
        final int key;
        int value;
        int bucket;

        Entry(int key, int value, int bucket) {
            this.key = key;
            this.value = value;
            this.bucket = bucket;
        }
    }

    private static final class State {
        int buckets, near, times;
        boolean pulling;
        List<Entry> entries = new ArrayList<>();
        int moves, pulls, growths, added, removed;

        State(int buckets, int near, int times) {
            this.buckets = buckets;
            this.near = near;
            this.times = times;
        }

        State copy() {
            State c = new State(buckets, near, times);
            c.take(this);
            return c;
        }

        void take(State o) {
            buckets = o.buckets;
            near = o.near;
            times = o.times;
            pulling = o.pulling;
            moves = o.moves;
            pulls = o.pulls;
            growths = o.growths;
            added = o.added;
            removed = o.removed;
            List<Entry> list = new ArrayList<>();
            for (Entry e : o.entries) {
                list.add(new Entry(e.key, e.value, e.bucket));
            }
            entries = list;
        }

        int home(int key) {
            return ((key * times) % 997) % buckets;
        }

        int distance(int from, int to) {
            int steps = 0;
            for (int b = from; b != to; b = b + 1 == buckets ? 0 : b + 1) {
                steps++;
            }
            return steps;
        }

        int before(int bucket, int steps) {
            int b = bucket;
            for (int i = 0; i < steps; i++) {
                b = b == 0 ? buckets - 1 : b - 1;
            }
            return b;
        }

        Entry in(int bucket) {
            for (Entry e : entries) {
                if (e.bucket == bucket) {
                    return e;
                }
            }
            return null;
        }

        Entry with(int key) {
            for (Entry e : entries) {
                if (e.key == key) {
                    return e;
                }
            }
            return null;
        }

        List<Entry> inOrder() {
            List<Entry> order = new ArrayList<>();
            for (int b = 0; b < buckets; b++) {
                if (in(b) != null) {
                    order.add(in(b));
                }
            }
            return order;
        }

        boolean place(int key, int value) {
            int home = home(key);
            int free = -1;
            for (int b = 0; b < buckets; b++) {
                if (in(b) == null && (free < 0 || distance(home, b) < distance(home, free))) {
                    free = b;
                }
            }
            if (free < 0) {
                return false;
            }
            State trial = copy();
            while (trial.distance(home, free) >= near) {
                Entry displaced = null;
                for (int d = near - 1; d >= 1 && displaced == null; d--) {
                    int b = before(free, d);
                    for (Entry e : trial.entries) {
                        if (home(e.key) == b && distance(b, e.bucket) < distance(b, free)
                            && (displaced == null || distance(b, e.bucket) < distance(b, displaced.bucket))) {
                            displaced = e;
                        }
                    }
                }
                if (displaced == null) {
                    return false;
                }
                int gap = displaced.bucket;
                displaced.bucket = free;
                free = gap;
                trial.moves++;
            }
            trial.entries.add(new Entry(key, value, free));
            take(trial);
            return true;
        }

        /** Builds anew with just this number of buckets; null if an entry has no place. */
        State built(int count) {
            State next = copy();
            next.entries = new ArrayList<>();
            next.buckets = count;
            next.moves = 0;
            for (int c = buckets; c < count; c *= 2) {
                next.growths++;
            }
            for (Entry e : inOrder()) {
                if (!next.place(e.key, e.value)) {
                    return null;
                }
            }
            return next;
        }

        State buildAnew(int count) {
            for (int c = count; c <= 64; c *= 2) {
                State next = built(c);
                if (next != null) {
                    return next;
                }
            }
            throw new Refused("IllegalStateException");
        }

        State withAdded(int key, int value) {
            for (int c = buckets; c <= 64; c *= 2) {
                State next = c == buckets ? copy() : built(c);
                if (next != null && next.place(key, value)) {
                    next.added++;
                    return next;
                }
            }
            throw new Refused("IllegalStateException");
        }

        void removeEntry(Entry gone) {
            entries.remove(gone);
            removed++;
            int free = gone.bucket;
            while (pulling) {
                Entry pulled = null;
                for (int d = near - 1; d >= 0 && pulled == null; d--) {
                    int b = before(free, d);
                    for (Entry e : entries) {
                        if (home(e.key) == b && distance(b, e.bucket) > distance(b, free)
                            && (pulled == null || distance(b, e.bucket) > distance(b, pulled.bucket))) {
                            pulled = e;
                        }
                    }
                }
                if (pulled == null) {
                    return;
                }
                int gap = pulled.bucket;
                pulled.bucket = free;
                free = gap;
                pulls++;
            }
        }
    }

    /** The whole object, by the document's words. */
    private static final class Model {
        State s;
        final Deque<State> undos = new ArrayDeque<>();
        State snapshot = null;
        byte[] input = new byte[0];
        int errorKind = 0, errorOffset = -1;
        String report = "";

        Model() {
            s = new Reader("table 8 3 1; add 1 10; add 9 11; add 3 12; add 17 13; add 4 14; pull; remove 9; add 12 15;").run();
        }

        void change(State next) {
            undos.addLast(s);
            if (undos.size() > 8) {
                undos.removeFirst();
            }
            s = next;
        }

        // the changes on a state; each gives a new one
        static State add(State s, int key, int value) {
            illegalArgumentIf(key < 0 || key > 9999 || value < 0 || value > 999);
            if (s.with(key) != null) {
                throw new Refused("IllegalStateException");
            }
            return s.withAdded(key, value);
        }

        static State put(State s, int key, int value) {
            illegalArgumentIf(key < 0 || key > 9999 || value < 0 || value > 999);
            if (s.with(key) == null) {
                return s.withAdded(key, value);
            }
            State next = s.copy();
            next.with(key).value = value;
            return next;
        }

        static State row(State s, int key, int step, int count) {
            illegalArgumentIf(key < 0 || key > 9999 || step < 1 || step > 999 || count < 1 || count > 20);
            illegalArgumentIf(key + step * (count - 1) > 9999);
            State next = s.copy();
            for (int i = 0; i < count; i++) {
                if (next.with(key + i * step) == null) {
                    next = next.withAdded(key + i * step, 0);
                }
            }
            return next;
        }

        static State remove(State s, int key) {
            if (s.with(key) == null) {
                throw new Refused("NoSuchElementException");
            }
            State next = s.copy();
            next.removeEntry(next.with(key));
            return next;
        }

        static State near(State s, int near) {
            illegalArgumentIf(near < 2 || near > 6);
            State next = s.copy();
            next.near = near;
            return next.buildAnew(next.buckets);
        }

        static State times(State s, int times) {
            illegalArgumentIf(times < 1 || times > 99);
            State next = s.copy();
            next.times = times;
            return next.buildAnew(next.buckets);
        }

        static State pulling(State s, boolean pulling) {
            State next = s.copy();
            next.pulling = pulling;
            return next;
        }

        static State clear(State s) {
            State next = s.copy();
            next.removed += next.entries.size();
            next.entries = new ArrayList<>();
            next.moves = 0;
            return next;
        }

        int runScript() {
            String text = new String(input, java.nio.charset.StandardCharsets.ISO_8859_1);
            input = new byte[0];
            try {
                change(new Reader(text).run());
                errorKind = 0;
                errorOffset = -1;
                meet("script good");
                return s.entries.size();
            } catch (ScriptError e) {
                errorKind = e.kind;
                errorOffset = e.offset;
                meet("script error " + e.kind);
                return -1;
            }
        }
    }

    /** A script, executed by going down the grammar. */
    private static final class Reader {
        final String text;
        State s;
        int at = 0;
        int executed = 0;
        int start;
        String token;

        Reader(String text) {
            this.text = text;
        }

        void next() {
            while (at < text.length() && (text.charAt(at) == ' ' || text.charAt(at) == '\n')) {
                at++;
            }
            start = at;
            if (at == text.length()) {
                token = "";
                return;
            }
            String rest = text.substring(at);
            String letters = rest.replaceFirst("(?s)^([a-z]*).*$", "$1");
            String digits = rest.replaceFirst("(?s)^([0-9]*).*$", "$1");
            token = !letters.isEmpty() ? letters : !digits.isEmpty() ? digits : rest.substring(0, 1);
            at += token.length();
        }

        ScriptError error(int kind) {
            return new ScriptError(kind, start);
        }

        int number() {
            next();
            if (!token.matches("[0-9]{1,4}")) {
                throw error(1);
            }
            return Integer.parseInt(token);
        }

        int number(int least, int most) {
            int n = number();
            if (n < least || n > most) {
                throw error(2);
            }
            return n;
        }

        void sign(String sign) {
            next();
            if (!token.equals(sign)) {
                throw error(1);
            }
        }

        State run() {
            next();
            if (!token.equals("table")) {
                throw error(1);
            }
            int buckets = number();
            if (buckets != 8 && buckets != 16 && buckets != 32 && buckets != 64) {
                throw error(2);
            }
            int near = number(2, 6);
            int times = number(1, 99);
            sign(";");
            s = new State(buckets, near, times);
            next();
            while (!token.isEmpty()) {
                command(0);
                sign(";");
                perform();
                next();
            }
            return s;
        }

        private String word;
        private int a, b, c;

        void command(int depth) {
            word = token;
            if (word.equals("repeat")) {
                repeat(depth);
                word = "";
                return;
            }
            if (!List.of("add", "put", "row", "remove", "near", "times", "pull", "lie", "grow", "clear").contains(word)) {
                throw error(1);
            }
            if (executed == 200) {
                throw error(5);
            }
            if (word.equals("add") || word.equals("put")) {
                a = number(0, 9999);
                b = number(0, 999);
            } else if (word.equals("row")) {
                a = number(0, 9999);
                b = number(1, 999);
                c = number(1, 20);
                if (a + b * (c - 1) > 9999) {
                    throw error(2);
                }
            } else if (word.equals("remove")) {
                a = number(0, 9999);
                if (s.with(a) == null) {
                    throw error(2);
                }
            } else if (word.equals("near")) {
                a = number(2, 6);
            } else if (word.equals("times")) {
                a = number(1, 99);
            }
        }

        void repeat(int depth) {
            if (depth == 2) {
                throw error(4);
            }
            int n = number(1, 20);
            sign("(");
            int body = at;
            for (int i = 0; i < n; i++) {
                at = body;
                next();
                while (!token.equals(")")) {
                    command(depth + 1);
                    sign(";");
                    perform();
                    next();
                }
            }
        }

        void perform() {
            if (word.isEmpty()) {
                return;
            }
            executed++;
            try {
                switch (word) {
                    case "add": s = Model.add(s, a, b); break;
                    case "put": s = Model.put(s, a, b); break;
                    case "row": s = Model.row(s, a, b, c); break;
                    case "remove": s = Model.remove(s, a); break;
                    case "near": s = Model.near(s, a); break;
                    case "times": s = Model.times(s, a); break;
                    case "grow": s = s.buildAnew(2 * s.buckets); break;
                    case "clear": s = Model.clear(s); break;
                    default: s = Model.pulling(s, word.equals("pull")); break;
                }
            } catch (Refused e) {
                if (!e.name.equals("IllegalStateException")) {
                    throw new AssertionError("the model itself is wrong: " + word + " " + e.name);
                }
                throw error(3);
            }
        }
    }

    /** A call as a text, for both programs. */
    private interface Call {
        Object answer();
    }

    private static Object of(Call call) {
        try {
            return call.answer();
        } catch (Refused e) {
            return e.name;
        } catch (IllegalArgumentException | IllegalStateException | IndexOutOfBoundsException | NoSuchElementException e) {
            return e.getClass().getSimpleName();
        }
    }

    private static final List<String> log = new ArrayList<>();

    private static void compare(int run, String name, Call got, Call due) {
        Object want = of(due);
        Object have = of(got);
        log.add(name + " = " + have);
        if (want instanceof String) {
            meet(name.replaceFirst("\\(.*", "") + " " + want);
        }
        if (!want.equals(have)) {
            wrong++;
            if (wrong <= 5) {
                System.out.println("run " + run + ": " + name + " answered " + have + ", due is " + want);
                int from = Math.max(0, log.size() - 30);
                System.out.println("  before: " + log.subList(from, log.size()));
            }
        }
    }

    private static int anyKey(Random r, Model m, int style) {
        int which = r.nextInt(40);
        if (which == 0) {
            return r.nextInt(4) == 0 ? Integer.MIN_VALUE : r.nextInt(3) == 0 ? Integer.MAX_VALUE : r.nextBoolean() ? -1 : 10000;
        }
        if (which == 1) {
            return r.nextBoolean() ? 0 : 9999;
        }
        if (which < 14 && !m.s.entries.isEmpty()) {
            return m.s.entries.get(r.nextInt(m.s.entries.size())).key;
        }
        if (style == 0) {
            return r.nextInt(10000);
        }
        if (style == 1) {
            return r.nextInt(100);
        }
        int near = style == 2 ? 3 : 9;
        return Math.min(9999, 997 * r.nextInt(11) + r.nextInt(near));
    }

    private static int oddOr(Random r, int least, int most) {
        int which = r.nextInt(25);
        if (which == 0) {
            return r.nextBoolean() ? Integer.MIN_VALUE : Integer.MAX_VALUE;
        }
        if (which == 1) {
            return least - 1;
        }
        if (which == 2) {
            return most + 1;
        }
        return which == 3 ? least : which == 4 ? most : least + r.nextInt(most - least + 1);
    }

    private static int anyBucket(Random r, Model m) {
        int which = r.nextInt(30);
        return which == 0 ? -1 : which == 1 ? m.s.buckets : which == 2 ? Integer.MAX_VALUE : which == 3 ? Integer.MIN_VALUE
            : which == 4 ? 64 : r.nextInt(m.s.buckets);
    }

    private static void change(int run, Random r, NeighbourHash x, Model m, int style) {
        int key = anyKey(r, m, style);
        int value = oddOr(r, 0, 999);
        switch (r.nextInt(16)) {
            case 0: case 1: case 2: case 3: case 4:
                compare(run, "add(" + key + ", " + value + ")", () -> x.add(key, value), () -> {
                    m.change(Model.add(m.s, key, value));
                    return m.s.with(key).bucket;
                });
                break;
            case 5: case 6:
                compare(run, "put(" + key + ", " + value + ")", () -> x.put(key, value), () -> {
                    Entry old = m.s.with(key);
                    m.change(Model.put(m.s, key, value));
                    return old == null ? -1 : old.value;
                });
                break;
            case 7: {
                int step = style >= 2 && r.nextBoolean() ? 997 : oddOr(r, 1, r.nextBoolean() ? 999 : 20);
                int count = oddOr(r, 1, r.nextBoolean() ? 20 : 5);
                compare(run, "addRow(" + key + ", " + step + ", " + count + ")", () -> x.addRow(key, step, count), () -> {
                    int before = m.s.entries.size();
                    m.change(Model.row(m.s, key, step, count));
                    return m.s.entries.size() - before;
                });
                break;
            }
            case 8: case 9: case 10: {
                int gone = !m.s.entries.isEmpty() && r.nextInt(8) > 0 ? m.s.entries.get(r.nextInt(m.s.entries.size())).key : key;
                compare(run, "remove(" + gone + ")", () -> x.remove(gone), () -> {
                    Entry old = m.s.with(gone);
                    m.change(Model.remove(m.s, gone));
                    return old.value;
                });
                break;
            }
            case 11: {
                int near = oddOr(r, 2, 6);
                compare(run, "setNeighbourhood(" + near + ")", () -> x.setNeighbourhood(near), () -> {
                    m.change(Model.near(m.s, near));
                    return m.s.buckets;
                });
                break;
            }
            case 12: {
                int times = oddOr(r, 1, 99);
                compare(run, "setMultiplier(" + times + ")", () -> x.setMultiplier(times), () -> {
                    m.change(Model.times(m.s, times));
                    return m.s.buckets;
                });
                break;
            }
            case 13: {
                boolean on = r.nextInt(3) > 0;
                compare(run, "setPulling(" + on + ")", () -> x.setPulling(on), () -> {
                    boolean before = m.s.pulling;
                    m.change(Model.pulling(m.s, on));
                    return before;
                });
                break;
            }
            case 14:
                if (r.nextInt(6) == 0) {
                    compare(run, "grow()", x::grow, () -> {
                        m.change(m.s.buildAnew(2 * m.s.buckets));
                        return m.s.buckets;
                    });
                } else if (r.nextInt(6) == 0) {
                    compare(run, "clear()", x::clear, () -> {
                        int before = m.s.entries.size();
                        m.change(Model.clear(m.s));
                        return before;
                    });
                }
                break;
            default:
                if (r.nextInt(4) == 0) {
                    script(run, r, x, m, style);
                } else {
                    goBack(run, r, x, m);
                }
                break;
        }
    }

    private static void goBack(int run, Random r, NeighbourHash x, Model m) {
        int which = r.nextInt(8);
        if (which == 0) {
            compare(run, "saveSnapshot()", x::saveSnapshot, () -> {
                m.snapshot = m.s;
                return m.s.entries.size();
            });
        } else if (which == 1) {
            compare(run, "restoreSnapshot()", x::restoreSnapshot, () -> {
                if (m.snapshot == null) {
                    throw new Refused("NoSuchElementException");
                }
                m.s = m.snapshot;
                m.undos.clear();
                return m.s.entries.size();
            });
        } else {
            int count = 1 + r.nextInt(which == 2 ? 10 : 3);
            for (int i = 0; i < count; i++) {
                compare(run, "undo()", x::undo, () -> {
                    if (m.undos.isEmpty()) {
                        return -1;
                    }
                    m.s = m.undos.removeLast();
                    return m.undos.size();
                });
            }
        }
    }

    private static void commands(StringBuilder text, Random r, Model m, int style, int depth, int count) {
        String[] blanks = {" ", " ", "\n", "  "};
        for (int i = 0; i < count; i++) {
            int key = Math.min(9999, Math.max(0, anyKey(r, m, style)));
            String gap = blanks[r.nextInt(blanks.length)];
            switch (r.nextInt(14)) {
                case 0: case 1: case 2: text.append(r.nextInt(5) == 0 ? "add" : "put").append(gap).append(key).append(' ').append(r.nextInt(1000)); break;
                case 3: case 4: text.append("add").append(key).append(gap).append(r.nextInt(1010)); break;
                case 5: case 6: text.append("row ").append(key % 4000).append(gap).append(r.nextInt(30)).append(' ').append(r.nextInt(22)); break;
                case 7: text.append("add ").append(key).append(" 5;remove ").append(key); break;
                case 8: text.append("near ").append(2 + r.nextInt(r.nextInt(6) == 0 ? 6 : 5)); break;
                case 9: text.append("times ").append(1 + r.nextInt(r.nextInt(6) == 0 ? 105 : 99)); break;
                case 10: text.append(r.nextInt(4) == 0 ? "lie" : "pull"); break;
                case 11: text.append(r.nextBoolean() ? "clear" : r.nextInt(4) == 0 ? "grow" : "pull"); break;
                default:
                    if (depth < 2 || r.nextInt(8) == 0) {
                        text.append("repeat ").append(1 + r.nextInt(r.nextInt(8) == 0 ? 21 : r.nextInt(3) == 0 ? 20 : 4)).append("(");
                        commands(text, r, m, style, depth + 1, r.nextInt(4));
                        text.append(gap).append(")");
                    } else {
                        text.append("clear");
                    }
                    break;
            }
            text.append(r.nextInt(4) == 0 ? " ;" : ";").append(r.nextInt(4) == 0 ? gap : "");
        }
    }

    private static void script(int run, Random r, NeighbourHash x, Model m, int style) {
        StringBuilder text = new StringBuilder();
        text.append("table ").append(8 << r.nextInt(4)).append(' ').append(2 + r.nextInt(5)).append(' ').append(1 + r.nextInt(99)).append(';');
        commands(text, r, m, style, 0, r.nextInt(12));
        if (r.nextInt(4) == 0) {
            int place = r.nextInt(text.length());
            String odd = "ax0159 ;()\n\t~Z" + (char) 0 + (char) 200 + (char) 255;
            switch (r.nextInt(4)) {
                case 0: text.setCharAt(place, odd.charAt(r.nextInt(odd.length()))); break;
                case 1: text.insert(place, odd.charAt(r.nextInt(odd.length()))); break;
                case 2: text.deleteCharAt(place); break;
                default: text.setLength(place); break;
            }
        }
        if (text.length() > 580) {
            text.setLength(580);
        }
        feed(run, x, m, text);
        log.add(text.toString());
        compare(run, "runScript()", x::runScript, m::runScript);
        compare(run, "scriptErrorKind()", x::scriptErrorKind, () -> m.errorKind);
        compare(run, "scriptErrorOffset()", x::scriptErrorOffset, () -> m.errorOffset);
        if (text.length() > 5 && m.errorKind == 0) {
            everything(run, x, m);
        }
    }

    private static void feed(int run, NeighbourHash x, Model m, StringBuilder text) {
        compare(run, "truncateInput(0)", () -> x.truncateInput(0), () -> {
            m.input = new byte[0];
            return 0;
        });
        for (int i = 0; i < text.length(); i += 20) {
            int[] words = new int[5];
            for (int j = 0; j < 20; j++) {
                int sign = i + j < text.length() ? text.charAt(i + j) : 0;
                words[j / 4] = words[j / 4] << 8 | sign;
            }
            append(run, x, m, words);
        }
        compare(run, "truncateInput(" + text.length() + ")", () -> x.truncateInput(text.length()), () -> {
            m.input = java.util.Arrays.copyOf(m.input, text.length());
            return text.length();
        });
    }

    private static void append(int run, NeighbourHash x, Model m, int[] w) {
        compare(run, "append()", () -> x.append(w[0], w[1], w[2], w[3], w[4]), () -> {
            if (m.input.length + 20 > 600) {
                return -1;
            }
            java.nio.ByteBuffer b = java.nio.ByteBuffer.allocate(m.input.length + 20);
            b.put(m.input);
            for (int word : w) {
                b.putInt(word);
            }
            m.input = b.array();
            return m.input.length;
        });
    }

    private static void input(int run, Random r, NeighbourHash x, Model m) {
        if (r.nextInt(3) == 0) {
            int length = r.nextInt(5) == 0 ? m.input.length + 1 : r.nextInt(5) == 0 ? -1 : r.nextInt(m.input.length + 1);
            compare(run, "truncateInput(" + length + ")", () -> x.truncateInput(length), () -> {
                illegalArgumentIf(length < 0 || length > m.input.length);
                m.input = java.util.Arrays.copyOf(m.input, length);
                return length;
            });
        } else {
            append(run, x, m, new int[] {r.nextInt(), r.nextInt(), r.nextInt(), r.nextInt(), r.nextInt()});
        }
    }

    private static int rangeChecked(int key) {
        illegalArgumentIf(key < 0 || key > 9999);
        return key;
    }

    private static int bucketChecked(Model m, int bucket) {
        if (bucket < 0 || bucket >= m.s.buckets) {
            throw new Refused("IndexOutOfBoundsException");
        }
        return bucket;
    }

    private static int hopBits(State s, int bucket) {
        int bits = 0;
        for (Entry e : s.entries) {
            if (s.home(e.key) == bucket) {
                bits |= 1 << s.distance(bucket, e.bucket);
            }
        }
        return bits;
    }

    private static int entriesOf(State s, int bucket) {
        int count = 0;
        for (Entry e : s.entries) {
            count += s.home(e.key) == bucket ? 1 : 0;
        }
        return count;
    }

    private static void askBucket(int run, int b, NeighbourHash x, Model m) {
        State s = m.s;
        compare(run, "keyAt(" + b + ")", () -> x.keyAt(b), () -> s.in(bucketChecked(m, b)) == null ? -1 : s.in(b).key);
        compare(run, "valueAt(" + b + ")", () -> x.valueAt(b), () -> s.in(bucketChecked(m, b)) == null ? -1 : s.in(b).value);
        compare(run, "hopBits(" + b + ")", () -> x.hopBits(b), () -> hopBits(s, bucketChecked(m, b)));
        compare(run, "entriesOf(" + b + ")", () -> x.entriesOf(b), () -> entriesOf(s, bucketChecked(m, b)));
        compare(run, "freeDistance(" + b + ")", () -> x.freeDistance(b), () -> {
            bucketChecked(m, b);
            int least = -1;
            for (int f = 0; f < s.buckets; f++) {
                if (s.in(f) == null && (least < 0 || s.distance(b, f) < least)) {
                    least = s.distance(b, f);
                }
            }
            return least;
        });
    }

    private static void askKey(int run, int key, NeighbourHash x, Model m) {
        State s = m.s;
        Entry e = s.with(key);
        compare(run, "homeOf(" + key + ")", () -> x.homeOf(key), () -> s.home(rangeChecked(key)));
        compare(run, "bucketOf(" + key + ")", () -> x.bucketOf(key), () -> rangeChecked(key) >= 0 && e == null ? -1 : e.bucket);
        compare(run, "valueOf(" + key + ")", () -> x.valueOf(key), () -> rangeChecked(key) >= 0 && e == null ? -1 : e.value);
        compare(run, "distanceOf(" + key + ")", () -> x.distanceOf(key),
            () -> rangeChecked(key) >= 0 && e == null ? -1 : s.distance(s.home(key), e.bucket));
        compare(run, "looksFor(" + key + ")", () -> x.looksFor(key), () -> {
            int home = s.home(rangeChecked(key));
            int looks = 0;
            for (Entry o : s.entries) {
                boolean looked = e == null || s.distance(home, o.bucket) <= s.distance(home, e.bucket);
                looks += s.home(o.key) == home && looked ? 1 : 0;
            }
            return looks;
        });
        compare(run, "rank(" + key + ")", () -> x.rank(key), () -> {
            rangeChecked(key);
            int count = 0;
            for (Entry o : s.entries) {
                count += o.key < key ? 1 : 0;
            }
            return count;
        });
    }

    private static State added(State s, int key) {
        try {
            return Model.add(s, rangeChecked(key), 0);
        } catch (Refused e) {
            if (e.name.equals("IllegalStateException")) {
                return null;
            }
            throw e;
        }
    }

    private static void predict(int run, int key, int near, int most, NeighbourHash x, Model m) {
        State s = m.s;
        compare(run, "whyNoAdd(" + key + ")", () -> x.whyNoAdd(key),
            () -> s.with(rangeChecked(key)) != null ? 1 : added(s, key) == null ? 2 : 0);
        compare(run, "placeFor(" + key + ")", () -> x.placeFor(key),
            () -> added(s, key) == null ? -1 : added(s, key).with(key).bucket);
        compare(run, "movesFor(" + key + ")", () -> x.movesFor(key), () -> {
            State next = added(s, key);
            if (next != null && next.buckets == s.buckets && next.moves > s.moves) {
                meet("movesFor some");
            }
            return next == null ? -1 : next.buckets != s.buckets ? 0 : next.moves - s.moves;
        });
        compare(run, "bucketsAfter(" + key + ")", () -> x.bucketsAfter(key), () -> {
            State next = added(s, key);
            meet(next == null ? "bucketsAfter none" : "bucketsAfter times " + next.buckets / s.buckets);
            return next == null ? -1 : next.buckets;
        });
        compare(run, "pullsFor(" + key + ")", () -> x.pullsFor(key), () -> {
            if (s.with(rangeChecked(key)) == null) {
                return -1;
            }
            int count = Model.remove(s, key).pulls - s.pulls;
            meet("pullsFor " + (count > 1 ? "many" : "" + count));
            return count;
        });
        compare(run, "bucketsWith(" + near + ")", () -> x.bucketsWith(near), () -> {
            try {
                int after = Model.near(s, near).buckets;
                meet("bucketsWith times " + after / s.buckets);
                return after;
            } catch (Refused e) {
                if (e.name.equals("IllegalStateException")) {
                    meet("bucketsWith none");
                    return -1;
                }
                throw e;
            }
        });
        compare(run, "bestMultiplier(" + most + ")", () -> x.bestMultiplier(most), () -> {
            illegalArgumentIf(most < 1 || most > 30);
            int best = -1;
            for (int t = 1; t <= most; t++) {
                State start = s.copy();
                start.times = t;
                State next = start.built(s.buckets);
                if (next != null && (best < 0 || sum(next) < sumWith(s, best))) {
                    best = t;
                }
            }
            meet(best < 0 ? "bestMultiplier none" : best == 1 ? "bestMultiplier 1" : "bestMultiplier more");
            return best;
        });
    }

    private static int sum(State s) {
        int sum = 0;
        for (Entry e : s.entries) {
            sum += s.distance(s.home(e.key), e.bucket);
        }
        return sum;
    }

    private static int sumWith(State s, int times) {
        State start = s.copy();
        start.times = times;
        return sum(start.built(s.buckets));
    }

    private static String report(State s) {
        List<String> parts = new ArrayList<>();
        for (int b = 0; b < s.buckets; b++) {
            Entry e = s.in(b);
            int steps = e == null ? 0 : s.distance(s.home(e.key), b);
            parts.add(e == null ? "." : steps == 0 ? "" + e.key : e.key + "+" + steps);
        }
        return String.join(" ", parts);
    }

    private static void askReport(int run, Random r, NeighbourHash x, Model m) {
        if (r.nextInt(3) == 0) {
            compare(run, "writeTable()", x::writeTable, () -> {
                m.report = report(m.s);
                return m.report.length();
            });
        }
        for (int i = 0; i < 4; i++) {
            int index = i == 0 ? m.report.length() : i == 1 ? m.report.length() - 1 : r.nextInt(m.report.length() + 4) - 2;
            compare(run, "reportByte(" + index + ")", () -> x.reportByte(index),
                () -> index < 0 || index >= m.report.length() ? -1 : (int) m.report.charAt(index));
        }
    }

    private static void everything(int run, NeighbourHash x, Model m) {
        State s = m.s;
        List<Integer> steps = new ArrayList<>(List.of(0));
        for (Entry e : s.entries) {
            steps.add(s.distance(s.home(e.key), e.bucket));
        }
        compare(run, "undoCount()", x::undoCount, m.undos::size);
        compare(run, "bucketCount()", x::bucketCount, () -> s.buckets);
        compare(run, "entryCount()", x::entryCount, () -> s.entries.size());
        compare(run, "neighbourhood()", x::neighbourhood, () -> s.near);
        compare(run, "multiplier()", x::multiplier, () -> s.times);
        compare(run, "isPulling()", x::isPulling, () -> s.pulling);
        compare(run, "longestRun()", x::longestRun, () -> {
            int longest = 0;
            for (int b = 0; b < s.buckets; b++) {
                int run1 = 0;
                while (run1 < s.buckets && s.in((b + run1) % s.buckets) != null) {
                    run1++;
                }
                longest = Math.max(longest, run1);
            }
            meet(longest == s.buckets ? "longestRun all" : "longestRun less");
            return longest;
        });
        compare(run, "fullestHome()", x::fullestHome, () -> {
            int best = -1;
            for (int b = s.buckets - 1; b >= 0; b--) {
                if (entriesOf(s, b) > 0 && (best < 0 || entriesOf(s, b) >= entriesOf(s, best))) {
                    best = b;
                }
            }
            return best;
        });
        compare(run, "longestDistance()", x::longestDistance, () -> Collections.max(steps));
        compare(run, "sumOfDistances()", x::sumOfDistances, () -> sum(s));
        compare(run, "moves()", x::moves, () -> s.moves);
        compare(run, "pulls()", x::pulls, () -> s.pulls);
        compare(run, "growths()", x::growths, () -> s.growths);
        compare(run, "addedCount()", x::addedCount, () -> s.added);
        compare(run, "removedCount()", x::removedCount, () -> s.removed);
        compare(run, "meanDistance()", x::meanDistance, () -> s.entries.isEmpty() ? 0.0 : (double) sum(s) / (double) s.entries.size());
        compare(run, "load()", x::load, () -> (float) s.entries.size() / (float) s.buckets);
        compare(run, "violations()", x::violations, () -> 0);
    }

    /** Every bucket, too: at the end of a run, when no more calls follow. */
    private static void wholeTable(int run, NeighbourHash x, Model m) {
        for (int b = 0; b < m.s.buckets; b++) {
            askBucket(run, b, x, m);
        }
    }

    private static void run(int run) {
        Random r = new Random(run);
        NeighbourHash x = new NeighbourHash();
        Model m = new Model();
        int style = run % 4;
        log.clear();
        everything(run, x, m);
        if (run % 3 == 0) {
            script(run, r, x, m, style);
        }
        while (log.size() < CALLS) {
            int which = r.nextInt(20);
            if (which < 12) {
                change(run, r, x, m, style);
            } else if (which < 14) {
                askBucket(run, anyBucket(r, m), x, m);
            } else if (which < 16) {
                askKey(run, anyKey(r, m, style), x, m);
            } else if (which == 16) {
                predict(run, anyKey(r, m, style), oddOr(r, 2, 6), oddOr(r, 1, r.nextBoolean() ? 30 : 3), x, m);
            } else if (which == 17) {
                everything(run, x, m);
            } else if (which == 18) {
                askReport(run, r, x, m);
            } else {
                input(run, r, x, m);
            }
        }
        wholeTable(run, x, m);
    }

    /** Runs that never come to an edge prove nothing about it. */
    private static void dueToBeMet(String... edges) {
        for (String edge : edges) {
            if (!met.containsKey(edge)) {
                wrong++;
                System.out.println("no run came to: " + edge);
            }
        }
    }

    public static void main(String[] args) {
        for (int i = 0; i < RUNS; i++) {
            run(i);
        }
        dueToBeMet("script good", "script error 1", "script error 2", "script error 3", "script error 4", "script error 5",
            "add IllegalStateException", "add IllegalArgumentException", "put IllegalStateException", "addRow IllegalStateException",
            "addRow IllegalArgumentException", "remove NoSuchElementException", "setNeighbourhood IllegalStateException",
            "setMultiplier IllegalStateException", "grow IllegalStateException", "restoreSnapshot NoSuchElementException",
            "keyAt IndexOutOfBoundsException", "movesFor some", "bucketsAfter none", "bucketsAfter times 1", "bucketsAfter times 2",
            "bucketsAfter times 4", "pullsFor 0", "pullsFor 1", "pullsFor many", "bucketsWith none", "bucketsWith times 1",
            "bucketsWith times 2", "bestMultiplier none", "bestMultiplier 1", "bestMultiplier more", "longestRun all");
        if (args.length > 0) {
            System.out.println(met);
        }
        System.out.println(wrong == 0 ? "all answers are as due" : wrong + " answers are not as due");
        if (wrong != 0) {
            System.exit(1);
        }
    }
}
