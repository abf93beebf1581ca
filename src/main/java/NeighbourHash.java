import java.util.NoSuchElementException;

/** A hopscotch hash table with scripts, undo, predictions and a report; ../shared/DOC.md says what it promises. */
public final class NeighbourHash {
    public static final int NONE = -1;
    public static final int ALLOWED = 0, PRESENT = 1, NO_PLACE = 2;

    private static final int LEAST_BUCKETS = 8, MOST_BUCKETS = 64;
    private static final int LEAST_NEAR = 2, MOST_NEAR = 6;
    private static final int MOST_TIMES = 99;
    private static final int MOST_KEY = 9999, MOST_VALUE = 999;
    private static final int MOST_STEP = 999, MOST_IN_ROW = 20;
    private static final int MOST_TRIED = 30;

    // More statements than any script can come to: 600 bytes hold fewer than 600
    // statements, and each is read at most 20 times 20 times.
    private static final int MOST_STATEMENTS = 1000000;

    private final Input input;
    private final Script script;
    private final Table now;
    private final Table trial;
    private final Table snapshot;
    private boolean snapshotSaved;
    private final History history;
    private final Report report;

    public NeighbourHash() {
        input = new Input();
        script = new Script(input);
        now = new Table();
        trial = new Table();
        snapshot = new Table();
        snapshotSaved = false;
        history = new History();
        report = new Report();
        now.begin(8, 3, 1);
        now.insert(1, 10);
        now.insert(9, 11);
        now.insert(3, 12);
        now.insert(17, 13);
        now.insert(4, 14);
        now.pulling = true;
        now.take(9);
        now.insert(12, 15);
    }

    // ---- input

    public int append(int a, int b, int c, int d, int e) {
        if (input.length + 20 > Input.MOST_BYTES) {
            return NONE;
        }
        input.addFourBytes(a);
        input.addFourBytes(b);
        input.addFourBytes(c);
        input.addFourBytes(d);
        input.addFourBytes(e);
        return input.length;
    }

    public int truncateInput(int length) throws IllegalArgumentException {
        if (length < 0 || length > input.length) {
            throw new IllegalArgumentException("no such length of the input");
        }
        input.length = length;
        return length;
    }

    // ---- changes

    public int runScript() {
        script.begin();
        for (int i = 0; i < MOST_STATEMENTS && script.goesOn(); i++) {
            script.readStatement();
            script.perform();
        }
        input.length = 0;
        if (script.errorKind != 0) {
            return NONE;
        }
        history.mark(now);
        now.copyFrom(script.table);
        history.keep();
        return now.entries;
    }

    public int add(int key, int value) throws IllegalArgumentException, IllegalStateException {
        needKey(key);
        needValue(value);
        if (now.bucketWith(key) != NONE) {
            throw new IllegalStateException("there is an entry with the key");
        }
        history.mark(now);
        int bucket = now.insert(key, value);
        if (bucket == NONE) {
            history.takeBack(now);
            throw new IllegalStateException("no place for the entry");
        }
        history.keep();
        return bucket;
    }

    public int put(int key, int value) throws IllegalArgumentException, IllegalStateException {
        needKey(key);
        needValue(value);
        int before = now.valueIn(now.bucketWith(key));
        history.mark(now);
        if (!now.store(key, value)) {
            history.takeBack(now);
            throw new IllegalStateException("no place for the entry");
        }
        history.keep();
        return before;
    }

    public int addRow(int key, int step, int count) throws IllegalArgumentException, IllegalStateException {
        if (!isKey(key) || !isStep(step) || !isRow(key, step, count)) {
            throw new IllegalArgumentException("key, step or count out of range");
        }
        history.mark(now);
        int inserted = now.insertRow(key, step, count);
        if (inserted == NONE) {
            history.takeBack(now);
            throw new IllegalStateException("no place for an entry");
        }
        history.keep();
        return inserted;
    }

    public int remove(int key) throws NoSuchElementException {
        if (!isKey(key) || now.bucketWith(key) == NONE) {
            throw new NoSuchElementException("no entry with the key");
        }
        history.mark(now);
        int value = now.take(key);
        history.keep();
        return value;
    }

    public int setNeighbourhood(int near) throws IllegalArgumentException, IllegalStateException {
        if (!isNear(near)) {
            throw new IllegalArgumentException("neighbourhood out of range");
        }
        history.mark(now);
        if (!now.changeNear(near)) {
            history.takeBack(now);
            throw new IllegalStateException("the table cannot be built anew");
        }
        history.keep();
        return now.buckets;
    }

    public int setMultiplier(int multiplier) throws IllegalArgumentException, IllegalStateException {
        if (!isTimes(multiplier)) {
            throw new IllegalArgumentException("multiplier out of range");
        }
        history.mark(now);
        if (!now.changeTimes(multiplier)) {
            history.takeBack(now);
            throw new IllegalStateException("the table cannot be built anew");
        }
        history.keep();
        return now.buckets;
    }

    public boolean setPulling(boolean pulling) {
        boolean before = now.pulling;
        history.mark(now);
        now.pulling = pulling;
        history.keep();
        return before;
    }

    public int grow() throws IllegalStateException {
        history.mark(now);
        if (!now.buildAnew(2 * now.buckets)) {
            history.takeBack(now);
            throw new IllegalStateException("the table cannot be built anew");
        }
        history.keep();
        return now.buckets;
    }

    public int clear() {
        history.mark(now);
        int dropped = now.dropAll();
        history.keep();
        return dropped;
    }

    // ---- undo and the snapshot

    public int undo() {
        if (history.kept == 0) {
            return NONE;
        }
        history.goBack(now);
        return history.kept;
    }

    public int undoCount() {
        return history.kept;
    }

    public int saveSnapshot() {
        snapshot.copyFrom(now);
        snapshotSaved = true;
        return now.entries;
    }

    public int restoreSnapshot() throws NoSuchElementException {
        if (!snapshotSaved) {
            throw new NoSuchElementException("no snapshot was saved");
        }
        now.copyFrom(snapshot);
        history.kept = 0;
        return now.entries;
    }

    // ---- the script error

    public int scriptErrorKind() {
        return script.errorKind;
    }

    public int scriptErrorOffset() {
        return script.errorOffset;
    }

    // ---- buckets

    public int bucketCount() {
        return now.buckets;
    }

    public int entryCount() {
        return now.entries;
    }

    public int neighbourhood() {
        return now.near;
    }

    public int multiplier() {
        return now.times;
    }

    public boolean isPulling() {
        return now.pulling;
    }

    public int keyAt(int bucket) throws IndexOutOfBoundsException {
        needBucket(bucket);
        return now.keyIn(bucket);
    }

    public int valueAt(int bucket) throws IndexOutOfBoundsException {
        needBucket(bucket);
        return now.valueIn(bucket);
    }

    public int hopBits(int bucket) throws IndexOutOfBoundsException {
        needBucket(bucket);
        return now.hopsIn(bucket);
    }

    public int entriesOf(int bucket) throws IndexOutOfBoundsException {
        needBucket(bucket);
        return Integer.bitCount(now.hopsIn(bucket));
    }

    public int freeDistance(int bucket) throws IndexOutOfBoundsException {
        needBucket(bucket);
        return now.stepsToFree(bucket);
    }

    public int longestRun() {
        return now.longestFull();
    }

    public int fullestHome() {
        return now.fullest();
    }

    // ---- entries

    public int homeOf(int key) throws IllegalArgumentException {
        needKey(key);
        return now.homeFor(key);
    }

    public int bucketOf(int key) throws IllegalArgumentException {
        needKey(key);
        return now.bucketWith(key);
    }

    public int valueOf(int key) throws IllegalArgumentException {
        needKey(key);
        return now.valueIn(now.bucketWith(key));
    }

    public int distanceOf(int key) throws IllegalArgumentException {
        needKey(key);
        return now.stepsFromHome(now.bucketWith(key));
    }

    public int looksFor(int key) throws IllegalArgumentException {
        needKey(key);
        return now.looksUntil(key);
    }

    public int longestDistance() {
        return now.mostSteps();
    }

    public int sumOfDistances() {
        return now.sumOfSteps();
    }

    public int rank(int key) throws IllegalArgumentException {
        needKey(key);
        return now.countBelow(key);
    }

    // ---- reasons and predictions

    public int whyNoAdd(int key) throws IllegalArgumentException {
        needKey(key);
        if (now.bucketWith(key) != NONE) {
            return PRESENT;
        }
        return tryToInsert(key) == NONE ? NO_PLACE : ALLOWED;
    }

    public int placeFor(int key) throws IllegalArgumentException {
        needKey(key);
        return tryToInsert(key);
    }

    public int movesFor(int key) throws IllegalArgumentException {
        needKey(key);
        if (tryToInsert(key) == NONE) {
            return NONE;
        }
        return trial.buckets == now.buckets ? trial.displaced - now.displaced : 0;
    }

    public int bucketsAfter(int key) throws IllegalArgumentException {
        needKey(key);
        return tryToInsert(key) == NONE ? NONE : trial.buckets;
    }

    public int pullsFor(int key) throws IllegalArgumentException {
        needKey(key);
        if (now.bucketWith(key) == NONE) {
            return NONE;
        }
        trial.copyFrom(now);
        trial.take(key);
        return trial.pulled - now.pulled;
    }

    public int bucketsWith(int near) throws IllegalArgumentException {
        if (!isNear(near)) {
            throw new IllegalArgumentException("neighbourhood out of range");
        }
        trial.copyFrom(now);
        return trial.changeNear(near) ? trial.buckets : NONE;
    }

    public int bestMultiplier(int most) throws IllegalArgumentException {
        if (most < 1 || most > MOST_TRIED) {
            throw new IllegalArgumentException("greatest multiplier out of range");
        }
        int best = NONE;
        int leastSum = 0;
        for (int times = 1; times <= most; times++) {
            trial.copyFrom(now);
            if (!trial.changeTimes(times) || trial.buckets != now.buckets) {
                continue;
            }
            int sum = trial.sumOfSteps();
            if (best == NONE || sum < leastSum) {
                best = times;
                leastSum = sum;
            }
        }
        return best;
    }

    // ---- accounts and checks

    public int moves() {
        return now.displaced;
    }

    public int pulls() {
        return now.pulled;
    }

    public int growths() {
        return now.doubled;
    }

    public int addedCount() {
        return now.added;
    }

    public int removedCount() {
        return now.removed;
    }

    public double meanDistance() {
        return now.entries == 0 ? 0.0 : (double) now.sumOfSteps() / (double) now.entries;
    }

    public float load() {
        return now.buckets == 0 ? 0.0f : (float) now.entries / (float) now.buckets;
    }

    public int violations() {
        int gap = Math.abs(now.added - (now.removed + now.entries));
        return now.strayEntries() + now.wrongHops() + now.twins() + gap;
    }

    // ---- the report

    public int writeTable() {
        report.begin();
        for (int bucket = 0; bucket < now.buckets; bucket++) {
            if (bucket > 0) {
                report.addSign(' ');
            }
            if (now.keyIn(bucket) == NONE) {
                report.addSign('.');
                continue;
            }
            report.addNumber(now.keyIn(bucket));
            int steps = now.stepsFromHome(bucket);
            if (steps > 0) {
                report.addSign('+');
                report.addNumber(steps);
            }
        }
        return report.length;
    }

    public int reportByte(int index) {
        return report.signAt(index);
    }

    // ---- what a call needs

    private static void needKey(int key) {
        if (!isKey(key)) {
            throw new IllegalArgumentException("key out of range");
        }
    }

    private static void needValue(int value) {
        if (!isValue(value)) {
            throw new IllegalArgumentException("value out of range");
        }
    }

    private void needBucket(int bucket) {
        if (!now.hasBucket(bucket)) {
            throw new IndexOutOfBoundsException("no such bucket");
        }
    }

    // ---- ranges and the trial

    private static boolean isKey(int key) {
        return key >= 0 && key <= MOST_KEY;
    }

    private static boolean isValue(int value) {
        return value >= 0 && value <= MOST_VALUE;
    }

    private static boolean isStep(int step) {
        return step >= 1 && step <= MOST_STEP;
    }

    /** Only for a key and a step that are in their ranges: others could overflow. */
    private static boolean isRow(int key, int step, int count) {
        return count >= 1 && count <= MOST_IN_ROW && isKey(key + step * (count - 1));
    }

    private static boolean isNear(int near) {
        return near >= LEAST_NEAR && near <= MOST_NEAR;
    }

    private static boolean isTimes(int times) {
        return times >= 1 && times <= MOST_TIMES;
    }

    private static boolean isBucketNumber(int buckets) {
        return buckets == 8 || buckets == 16 || buckets == 32 || buckets == 64;
    }

    /** The bucket that a new key would get, NONE if it could not be added; the trial is the table with it then. */
    private int tryToInsert(int key) {
        if (now.bucketWith(key) != NONE) {
            return NONE;
        }
        trial.copyFrom(now);
        return trial.insert(key, 0);
    }

    /**
     * The buckets and everything else that undo restores. Its rows have room for the most buckets,
     * so that building anew makes no new ones.
     */
    private static final class Table {
        final int[] keys = new int[MOST_BUCKETS];
        final int[] values = new int[MOST_BUCKETS];
        final int[] hops = new int[MOST_BUCKETS];
        final int[] queuedKeys = new int[MOST_BUCKETS];
        final int[] queuedValues = new int[MOST_BUCKETS];
        int queued;
        int buckets;
        int near;
        int times;
        boolean pulling;
        int entries;
        int displaced;
        int pulled;
        int doubled;
        int added;
        int removed;

        Table() {
            begin(LEAST_BUCKETS, LEAST_NEAR, 1);
        }

        void begin(int newBuckets, int newNear, int newTimes) {
            near = newNear;
            times = newTimes;
            pulling = false;
            pulled = 0;
            doubled = 0;
            added = 0;
            removed = 0;
            empty(newBuckets);
        }

        /** The queue is left out: every building fills it first. */
        void copyFrom(Table other) {
            System.arraycopy(other.keys, 0, keys, 0, MOST_BUCKETS);
            System.arraycopy(other.values, 0, values, 0, MOST_BUCKETS);
            System.arraycopy(other.hops, 0, hops, 0, MOST_BUCKETS);
            buckets = other.buckets;
            near = other.near;
            times = other.times;
            pulling = other.pulling;
            entries = other.entries;
            displaced = other.displaced;
            pulled = other.pulled;
            doubled = other.doubled;
            added = other.added;
            removed = other.removed;
        }

        // ---- changes; after one that fails the table is of no use, the caller takes a copy back

        /** The bucket of the new entry, or NONE if it cannot be added. */
        int insert(int key, int value) {
            // Queued before the first search: a search in vain leaves entries displaced,
            // and building anew goes by the buckets before the change.
            queueAll();
            int bucket = place(key, value);
            for (int wide = LEAST_BUCKETS; wide <= MOST_BUCKETS; wide *= 2) {
                if (bucket == NONE && wide > buckets && build(wide)) {
                    bucket = place(key, value);
                }
            }
            if (bucket != NONE) {
                added++;
            }
            return bucket;
        }

        /** How many entries were added, or NONE if one of them cannot be. */
        int insertRow(int key, int step, int count) {
            int inserted = 0;
            for (int i = 0; i < count; i++) {
                int next = key + i * step;
                if (bucketWith(next) != NONE) {
                    continue;
                }
                if (insert(next, 0) == NONE) {
                    return NONE;
                }
                inserted++;
            }
            return inserted;
        }

        /** False if a new entry cannot be added. */
        boolean store(int key, int value) {
            int bucket = bucketWith(key);
            if (hasBucket(bucket)) {
                values[bucket] = value;
                return true;
            }
            return insert(key, value) != NONE;
        }

        /** The value of the entry that is removed, NONE if there is none. */
        int take(int key) {
            int bucket = bucketWith(key);
            int home = homeFor(key);
            if (!hasBucket(bucket) || !hasBucket(home)) {
                return NONE;
            }
            int value = values[bucket];
            hops[home] &= ~(1 << stepsFromHome(bucket));
            keys[bucket] = NONE;
            values[bucket] = NONE;
            entries--;
            removed++;
            if (pulling) {
                pullFrom(bucket);
            }
            return value;
        }

        boolean changeNear(int newNear) {
            near = newNear;
            return buildAnew(buckets);
        }

        boolean changeTimes(int newTimes) {
            times = newTimes;
            return buildAnew(buckets);
        }

        /** Doubles the number of buckets as often as it must; false if there would be too many. */
        boolean buildAnew(int newBuckets) {
            queueAll();
            for (int wide = LEAST_BUCKETS; wide <= MOST_BUCKETS; wide *= 2) {
                if (wide >= newBuckets && build(wide)) {
                    return true;
                }
            }
            return false;
        }

        int dropAll() {
            int dropped = entries;
            removed += dropped;
            empty(buckets);
            return dropped;
        }

        // ---- building

        /** Also the count of displaced entries begins anew, as it does for building and for clearing. */
        private void empty(int newBuckets) {
            buckets = newBuckets;
            entries = 0;
            displaced = 0;
            for (int i = 0; i < MOST_BUCKETS; i++) {
                keys[i] = NONE;
                values[i] = NONE;
                hops[i] = 0;
            }
        }

        private void queueAll() {
            queued = 0;
            for (int i = 0; i < buckets && i < keys.length; i++) {
                if (keys[i] != NONE && queued >= 0 && queued < queuedKeys.length) {
                    queuedKeys[queued] = keys[i];
                    queuedValues[queued] = values[i];
                    queued++;
                }
            }
        }

        /** False if a queued entry has no place among this many buckets, which are as many as now or twice as many. */
        private boolean build(int newBuckets) {
            if (newBuckets != buckets) {
                doubled++;
            }
            empty(newBuckets);
            for (int i = 0; i < queued && i < queuedKeys.length; i++) {
                if (place(queuedKeys[i], queuedValues[i]) == NONE) {
                    return false;
                }
            }
            return true;
        }

        /** The bucket that the entry got, or NONE; then entries may have been displaced in vain. */
        private int place(int key, int value) {
            int home = homeFor(key);
            int steps = stepsToFree(home);
            for (int i = 0; i < MOST_BUCKETS && steps >= near; i++) {
                int nearer = displaceInto((home + steps) & (buckets - 1));
                steps = nearer == 0 ? NONE : steps - nearer;
            }
            int bucket = (home + steps) & (buckets - 1);
            if (steps < 0 || steps >= near || !hasBucket(home) || !hasBucket(bucket)) {
                return NONE;
            }
            keys[bucket] = key;
            values[bucket] = value;
            hops[home] |= 1 << steps;
            entries++;
            return bucket;
        }

        /** By how many steps the free bucket comes nearer, 0 if no entry can be displaced into it. */
        private int displaceInto(int free) {
            for (int back = near - 1; back >= 1; back--) {
                int home = (free - back) & (buckets - 1);
                for (int steps = 0; steps < back; steps++) {
                    if ((hopsIn(home) >> steps & 1) != 0) {
                        shift(home, steps, back);
                        displaced++;
                        return back - steps;
                    }
                }
            }
            return 0;
        }

        private void pullFrom(int bucket) {
            int free = bucket;
            // Each pull lessens the sum of the distances, which is less than this bound.
            for (int i = 0; i < MOST_BUCKETS * MOST_NEAR; i++) {
                int farther = pullInto(free);
                if (farther == 0) {
                    return;
                }
                pulled++;
                free = (free + farther) & (buckets - 1);
            }
        }

        /** By how many steps the free bucket goes on, 0 if no entry can be pulled into it. */
        private int pullInto(int free) {
            for (int back = near - 1; back >= 0; back--) {
                int home = (free - back) & (buckets - 1);
                for (int steps = near - 1; steps > back; steps--) {
                    if ((hopsIn(home) >> steps & 1) != 0) {
                        shift(home, steps, back);
                        return steps - back;
                    }
                }
            }
            return 0;
        }

        private void shift(int home, int from, int to) {
            int source = (home + from) & (buckets - 1);
            int target = (home + to) & (buckets - 1);
            if (source < 0 || source >= keys.length || target < 0 || target >= keys.length) {
                return;
            }
            if (home < 0 || home >= hops.length) {
                return;
            }
            keys[target] = keys[source];
            values[target] = values[source];
            keys[source] = NONE;
            values[source] = NONE;
            hops[home] = hops[home] & ~(1 << from) | 1 << to;
        }

        // ---- buckets

        boolean hasBucket(int bucket) {
            return bucket >= 0 && bucket < buckets && bucket < MOST_BUCKETS;
        }

        int keyIn(int bucket) {
            return bucket >= 0 && bucket < buckets && bucket < MOST_BUCKETS ? keys[bucket] : NONE;
        }

        int valueIn(int bucket) {
            return bucket >= 0 && bucket < buckets && bucket < MOST_BUCKETS ? values[bucket] : NONE;
        }

        int hopsIn(int bucket) {
            return bucket >= 0 && bucket < buckets && bucket < MOST_BUCKETS ? hops[bucket] : 0;
        }

        /** The distance of the next free bucket, NONE if no bucket is free. */
        int stepsToFree(int bucket) {
            for (int steps = 0; steps < buckets; steps++) {
                if (keyIn((bucket + steps) & (buckets - 1)) == NONE) {
                    return steps;
                }
            }
            return NONE;
        }

        int longestFull() {
            int longest = 0;
            int run = 0;
            // Twice round, so that a run over the last bucket is met whole.
            for (int i = 0; i < 2 * buckets; i++) {
                run = keyIn(i & (buckets - 1)) == NONE ? 0 : run + 1;
                longest = Math.max(longest, run);
            }
            return Math.min(longest, buckets);
        }

        int fullest() {
            int best = NONE;
            int most = 0;
            for (int i = 0; i < buckets; i++) {
                int count = Integer.bitCount(hopsIn(i));
                if (count > most) {
                    best = i;
                    most = count;
                }
            }
            return best;
        }

        // ---- entries

        /** The mask gives the remainder, because the number of buckets is a power of two. */
        int homeFor(int key) {
            return key * times % 997 & (buckets - 1);
        }

        int bucketWith(int key) {
            int home = homeFor(key);
            for (int steps = 0; steps < near; steps++) {
                int bucket = (home + steps) & (buckets - 1);
                if ((hopsIn(home) >> steps & 1) != 0 && keyIn(bucket) == key) {
                    return bucket;
                }
            }
            return NONE;
        }

        /** NONE if the bucket is free or none. */
        int stepsFromHome(int bucket) {
            int key = keyIn(bucket);
            return key == NONE ? NONE : (bucket - homeFor(key)) & (buckets - 1);
        }

        int looksUntil(int key) {
            int home = homeFor(key);
            int looks = 0;
            for (int steps = 0; steps < near; steps++) {
                if ((hopsIn(home) >> steps & 1) == 0) {
                    continue;
                }
                looks++;
                if (keyIn((home + steps) & (buckets - 1)) == key) {
                    return looks;
                }
            }
            return looks;
        }

        int mostSteps() {
            int most = 0;
            for (int i = 0; i < buckets; i++) {
                most = Math.max(most, stepsFromHome(i));
            }
            return most;
        }

        int sumOfSteps() {
            int sum = 0;
            for (int i = 0; i < buckets; i++) {
                sum += Math.max(0, stepsFromHome(i));
            }
            return sum;
        }

        int countBelow(int key) {
            int count = 0;
            for (int i = 0; i < buckets; i++) {
                if (keyIn(i) != NONE && keyIn(i) < key) {
                    count++;
                }
            }
            return count;
        }

        // ---- checks

        int strayEntries() {
            int count = 0;
            for (int i = 0; i < buckets; i++) {
                if (stepsFromHome(i) >= near) {
                    count++;
                }
            }
            return count;
        }

        int wrongHops() {
            int count = 0;
            for (int home = 0; home < buckets; home++) {
                for (int steps = 0; steps < near; steps++) {
                    int key = keyIn((home + steps) & (buckets - 1));
                    boolean isHome = key != NONE && homeFor(key) == home;
                    boolean isSaid = (hopsIn(home) >> steps & 1) != 0;
                    if (isHome != isSaid) {
                        count++;
                    }
                }
                count += Integer.bitCount(hopsIn(home) >> near);
            }
            return count;
        }

        int twins() {
            int count = 0;
            for (int i = 0; i < buckets; i++) {
                for (int j = 0; j < i; j++) {
                    if (keyIn(i) != NONE && keyIn(i) == keyIn(j)) {
                        count++;
                    }
                }
            }
            return count;
        }
    }

    /** The latest states, in a ring with one place more than are remembered, for the state before a change that may fail. */
    private static final class History {
        static final int MOST_KEPT = 8;
        static final int PLACES = MOST_KEPT + 1;

        final Table[] ring = new Table[PLACES];
        int next;
        int kept;

        History() {
            for (int i = 0; i < PLACES; i++) {
                ring[i] = new Table();
            }
        }

        void mark(Table table) {
            Table place = nextPlace();
            if (place != null) {
                place.copyFrom(table);
            }
        }

        /** The marked state can be undone to from now on. */
        void keep() {
            next = next + 1 < PLACES ? next + 1 : 0;
            kept = Math.min(kept + 1, MOST_KEPT);
        }

        void takeBack(Table table) {
            Table place = nextPlace();
            if (place != null) {
                table.copyFrom(place);
            }
        }

        void goBack(Table table) {
            next = next > 0 ? next - 1 : PLACES - 1;
            kept--;
            takeBack(table);
        }

        private Table nextPlace() {
            return next >= 0 && next < ring.length ? ring[next] : null;
        }
    }

    /** The input buffer and the reading of its tokens. */
    private static final class Input {
        static final int MOST_BYTES = 600;
        static final int MOST_DIGITS = 4;
        static final int END = 0, WORD = 1, NUMBER = 2, OPEN = 3, CLOSE = 4, SEMICOLON = 5, WRONG = 6;

        final int[] bytes = new int[MOST_BYTES];
        int length;
        int position;
        int start;
        int kind;
        int number;

        void addFourBytes(int four) {
            for (int shift = 24; shift >= 0; shift -= 8) {
                if (length >= 0 && length < bytes.length) {
                    bytes[length] = four >>> shift & 255;
                    length++;
                }
            }
        }

        void nextToken() {
            while (position < length && isBlank(byteAt(position))) {
                position++;
            }
            start = position;
            int sign = byteAt(position);
            if (sign == NONE) {
                kind = END;
            } else if (isLetter(sign)) {
                passWord();
            } else if (isDigit(sign)) {
                passNumber();
            } else {
                position++;
                kind = sign == '(' ? OPEN : sign == ')' ? CLOSE : sign == ';' ? SEMICOLON : WRONG;
            }
        }

        boolean isWord(String word) {
            if (kind != WORD || position - start != word.length()) {
                return false;
            }
            for (int i = 0; i < word.length(); i++) {
                if (byteAt(start + i) != word.charAt(i)) {
                    return false;
                }
            }
            return true;
        }

        private void passWord() {
            kind = WORD;
            while (position < length && isLetter(byteAt(position))) {
                position++;
            }
        }

        private void passNumber() {
            number = 0;
            while (position < length && isDigit(byteAt(position))) {
                number = number * 10 + (byteAt(position) - '0');
                position++;
            }
            kind = position - start > MOST_DIGITS ? WRONG : NUMBER;
        }

        private int byteAt(int index) {
            return index >= 0 && index < length && index < bytes.length ? bytes[index] : NONE;
        }

        private static boolean isBlank(int sign) {
            return sign == 32 || sign == 10;
        }

        private static boolean isLetter(int sign) {
            return sign >= 'a' && sign <= 'z';
        }

        private static boolean isDigit(int sign) {
            return sign >= '0' && sign <= '9';
        }
    }

    private enum Command {
        ADD("add", 2), PUT("put", 2), ROW("row", 3), REMOVE("remove", 1), NEAR("near", 1), TIMES("times", 1),
        PULL("pull", 0), LIE("lie", 0), GROW("grow", 0), CLEAR("clear", 0);

        final String word;
        final int numbers;

        Command(String word, int numbers) {
            this.word = word;
            this.numbers = numbers;
        }
    }

    private static final Command[] COMMANDS = Command.values();

    /** Executes the input on a table of its own; an error leaves that table half done, and nobody takes it then. */
    private static final class Script {
        static final int WRONG_TOKEN = 1, WRONG_NUMBER = 2, NOT_POSSIBLE = 3, TOO_DEEP = 4, TOO_LONG = 5;
        static final int MOST_COMMANDS = 200, MOST_DEPTH = 2, MOST_REPETITIONS = 20;

        final Input input;
        final Table table = new Table();
        final int[] numbers = new int[3];
        final int[] bodies = new int[MOST_DEPTH];
        final int[] repetitions = new int[MOST_DEPTH];
        int depth;
        int executed;
        Command command;
        boolean opened;
        boolean ended;
        int errorKind;
        int errorOffset = NONE;

        Script(Input input) {
            this.input = input;
        }

        void begin() {
            input.position = 0;
            depth = 0;
            executed = 0;
            opened = false;
            ended = false;
            errorKind = 0;
            errorOffset = NONE;
        }

        boolean goesOn() {
            return !ended && errorKind == 0;
        }

        /** Reads a statement up to its semicolon, or the beginning or the end of a repeat. */
        void readStatement() {
            command = null;
            input.nextToken();
            if (!opened) {
                readOpening();
            } else if (depth == 0 && input.kind == Input.END) {
                ended = true;
            } else if (depth > 0 && input.kind == Input.CLOSE) {
                endBody();
            } else if (input.isWord("repeat")) {
                readRepeat();
            } else {
                readCommand();
            }
        }

        /** Executes the command that was read, if one was. */
        void perform() {
            if (command == null || errorKind != 0) {
                return;
            }
            executed++;
            int first = numbers[0];
            int second = numbers[1];
            boolean done = true;
            switch (command) {
                case ADD:
                    done = table.bucketWith(first) == NONE && table.insert(first, second) != NONE;
                    break;
                case PUT:
                    done = table.store(first, second);
                    break;
                case ROW:
                    done = table.insertRow(first, second, numbers[2]) != NONE;
                    break;
                case REMOVE:
                    table.take(first);
                    break;
                case NEAR:
                    done = table.changeNear(first);
                    break;
                case TIMES:
                    done = table.changeTimes(first);
                    break;
                case GROW:
                    done = table.buildAnew(2 * table.buckets);
                    break;
                case CLEAR:
                    table.dropAll();
                    break;
                default:
                    table.pulling = command == Command.PULL;
                    break;
            }
            if (!done) {
                fail(NOT_POSSIBLE);
            }
        }

        private void readOpening() {
            if (!input.isWord("table")) {
                fail(WRONG_TOKEN);
                return;
            }
            for (int i = 0; i < 3 && errorKind == 0; i++) {
                numbers[i] = readNumber();
                if (errorKind == 0 && !fitsOpening(i, numbers[i])) {
                    fail(WRONG_NUMBER);
                }
            }
            expect(Input.SEMICOLON);
            if (errorKind == 0) {
                opened = true;
                table.begin(numbers[0], numbers[1], numbers[2]);
            }
        }

        private static boolean fitsOpening(int index, int number) {
            switch (index) {
                case 0:
                    return isBucketNumber(number);
                case 1:
                    return isNear(number);
                default:
                    return isTimes(number);
            }
        }

        private void readRepeat() {
            if (depth < 0 || depth >= MOST_DEPTH) {
                fail(TOO_DEEP);
                return;
            }
            int times = readNumber();
            if (errorKind == 0 && (times < 1 || times > MOST_REPETITIONS)) {
                fail(WRONG_NUMBER);
            }
            expect(Input.OPEN);
            if (errorKind == 0) {
                bodies[depth] = input.position;
                repetitions[depth] = times;
                depth++;
            }
        }

        private void endBody() {
            int inner = depth - 1;
            if (inner < 0 || inner >= MOST_DEPTH) {
                return;
            }
            repetitions[inner]--;
            if (repetitions[inner] > 0) {
                input.position = bodies[inner];
                return;
            }
            depth = inner;
            expect(Input.SEMICOLON);
        }

        private void readCommand() {
            Command read = null;
            for (int i = 0; i < COMMANDS.length && read == null; i++) {
                if (COMMANDS[i] != null && input.isWord(COMMANDS[i].word)) {
                    read = COMMANDS[i];
                }
            }
            if (read == null) {
                fail(WRONG_TOKEN);
                return;
            }
            if (executed >= MOST_COMMANDS) {
                fail(TOO_LONG);
                return;
            }
            for (int i = 0; i < read.numbers && i < numbers.length && errorKind == 0; i++) {
                numbers[i] = readNumber();
                if (errorKind == 0 && !fits(read, i)) {
                    fail(WRONG_NUMBER);
                }
            }
            expect(Input.SEMICOLON);
            command = read;
        }

        /** Whether the number of a command that was read last is in its range; those before it are. */
        private boolean fits(Command read, int index) {
            int first = numbers[0];
            switch (read) {
                case ADD:
                case PUT:
                    return index == 0 ? isKey(first) : isValue(numbers[1]);
                case ROW:
                    return index == 0 ? isKey(first)
                        : index == 1 ? isStep(numbers[1]) : isRow(first, numbers[1], numbers[2]);
                case REMOVE:
                    return table.bucketWith(first) != NONE;
                case NEAR:
                    return isNear(first);
                case TIMES:
                    return isTimes(first);
                default:
                    return true;
            }
        }

        private int readNumber() {
            expect(Input.NUMBER);
            return input.number;
        }

        /** Reads a token, unless there was an error before it. */
        private void expect(int kind) {
            if (errorKind != 0) {
                return;
            }
            input.nextToken();
            if (input.kind != kind) {
                fail(WRONG_TOKEN);
            }
        }

        /** The error is at the token that was read last. */
        private void fail(int kind) {
            errorKind = kind;
            errorOffset = input.start;
        }
    }

    /** The bytes of the latest report; 64 buckets need 447 at most. */
    private static final class Report {
        final int[] bytes = new int[MOST_BUCKETS * 7];
        int length;

        void begin() {
            length = 0;
        }

        void addSign(int sign) {
            if (length >= 0 && length < bytes.length) {
                bytes[length] = sign;
                length++;
            }
        }

        void addNumber(int number) {
            for (int unit = 1000; unit >= 1; unit /= 10) {
                if (number >= unit || unit == 1) {
                    addSign('0' + number / unit % 10);
                }
            }
        }

        int signAt(int index) {
            return index >= 0 && index < length && index < bytes.length ? bytes[index] : NONE;
        }
    }
}
