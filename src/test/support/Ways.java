/** One case of a sentence of the Terms, made into a test for each promise that rests on it. */
final class Ways {
    private Ways() {
    }

    private static String same(NeighbourHash x) {
        return Boundary.state(x) + " " + x.undoCount();
    }

    /**
     * The key gets the bucket: by add, put and addRow, in a script, and as predicted. "moved" is the answer of movesFor,
     * "moves" the one of moves() after the adding.
     */
    static void placing(String sentence, String what, String setup, int key, int bucket, int buckets, int moved, int moves, String table) {
        adding(sentence, what, setup, key, bucket, buckets, moves, table);
        predicting(40, sentence, what, setup, x -> Boundary.due("whyNoAdd(" + key + ")", x.whyNoAdd(key), 0));
        predicting(42, sentence, what, setup, x -> Boundary.due("movesFor(" + key + ")", x.movesFor(key), moved));
        predicting(43, sentence, what, setup, x -> Boundary.due("bucketsAfter(" + key + ")", x.bucketsAfter(key), buckets));
    }

    /** Only what may be another one in another order of building: whether there is a place, and with how many buckets, is not. */
    static void adding(String sentence, String what, String setup, int key, int bucket, int buckets, int moves, String table) {
        Boundary.test(5, sentence, what, () -> {
            NeighbourHash x = Boundary.after(setup);
            Boundary.due("add(" + key + ", 7)", x.add(key, 7), bucket);
            placed(x, key, 7, bucket, buckets, moves, table);
        });
        Boundary.test(6, sentence, what, () -> {
            NeighbourHash x = Boundary.after(setup);
            Boundary.due("put(" + key + ", 7)", x.put(key, 7), Boundary.NONE);
            placed(x, key, 7, bucket, buckets, moves, table);
        });
        Boundary.test(7, sentence, what, () -> {
            NeighbourHash x = Boundary.after(setup);
            Boundary.due("addRow(" + key + ", 1, 1)", x.addRow(key, 1, 1), 1);
            placed(x, key, 0, bucket, buckets, moves, table);
        });
        Boundary.test(4, sentence, what, () -> {
            placed(Boundary.after(setup + "add " + key + " 7;"), key, 7, bucket, buckets, moves, table);
            placed(Boundary.after(setup + "put " + key + " 7;"), key, 7, bucket, buckets, moves, table);
            placed(Boundary.after(setup + "row " + key + " 1 1;"), key, 0, bucket, buckets, moves, table);
        });
        predicting(41, sentence, what, setup, x -> Boundary.due("placeFor(" + key + ")", x.placeFor(key), bucket));
    }

    interface Question {
        void ask(NeighbourHash x);
    }

    /** A prediction changes nothing. */
    private static void predicting(int promise, String sentence, String what, String setup, Question question) {
        Boundary.test(promise, sentence, what, () -> {
            NeighbourHash x = Boundary.after(setup);
            String before = same(x);
            question.ask(x);
            Boundary.due("the state", same(x), before);
        });
    }

    private static void placed(NeighbourHash x, int key, int value, int bucket, int buckets, int moves, String table) {
        Boundary.due("the table", Boundary.places(x), table);
        Boundary.due("bucketOf(" + key + ")", x.bucketOf(key), bucket);
        Boundary.due("valueAt(" + bucket + ")", x.valueAt(bucket), value);
        Boundary.due("bucketCount()", x.bucketCount(), buckets);
        Boundary.due("moves()", x.moves(), moves);
        Boundary.due("violations()", x.violations(), 0);
    }

    /** The key gets no place: what would add it is refused and changes nothing. */
    static void noPlace(String sentence, String what, String setup, int key) {
        Boundary.test(5, sentence, what, () -> {
            NeighbourHash x = Boundary.after(setup);
            Boundary.changesNothing(x, () -> Boundary.refused(() -> x.add(key, 7)));
        });
        Boundary.test(6, sentence, what, () -> {
            NeighbourHash x = Boundary.after(setup);
            Boundary.changesNothing(x, () -> Boundary.refused(() -> x.put(key, 7)));
        });
        Boundary.test(7, sentence, what, () -> {
            NeighbourHash x = Boundary.after(setup);
            Boundary.changesNothing(x, () -> Boundary.refused(() -> x.addRow(key, 1, 1)));
        });
        Boundary.test(4, sentence, what, () -> {
            ScriptCases.error(3, setup + "add " + key + " 7^;");
            ScriptCases.error(3, setup + "put " + key + " 7^;");
            ScriptCases.error(3, setup + "row " + key + " 1 1^;");
        });
        predicting(40, sentence, what, setup, x -> Boundary.due("whyNoAdd(" + key + ")", x.whyNoAdd(key), 2));
        predicting(41, sentence, what, setup, x -> Boundary.due("placeFor(" + key + ")", x.placeFor(key), Boundary.NONE));
        predicting(42, sentence, what, setup, x -> Boundary.due("movesFor(" + key + ")", x.movesFor(key), Boundary.NONE));
        predicting(43, sentence, what, setup, x -> Boundary.due("bucketsAfter(" + key + ")", x.bucketsAfter(key), Boundary.NONE));
    }

    /** The key is removed, by remove and in a script, and its pulls are predicted and counted. */
    static void removing(String sentence, String what, String setup, int key, int pulls, String table) {
        freeing(sentence, what, setup, key, table);
        predicting(44, sentence, what, setup, x -> Boundary.due("pullsFor(" + key + ")", x.pullsFor(key), pulls));
        Boundary.test(48, sentence, what, () -> {
            NeighbourHash x = Boundary.after(setup);
            int before = x.pulls();
            x.remove(key);
            Boundary.due("pulls()", x.pulls(), before + pulls);
        });
    }

    static void freeing(String sentence, String what, String setup, int key, String table) {
        Boundary.test(8, sentence, what, () -> {
            NeighbourHash x = Boundary.after(setup);
            int value = x.valueOf(key);
            Boundary.due("remove(" + key + ")", x.remove(key), value);
            removed(x, key, table);
        });
        Boundary.test(4, sentence, what, () -> removed(Boundary.after(setup + "remove " + key + ";"), key, table));
    }

    private static void removed(NeighbourHash x, int key, String table) {
        Boundary.due("the table", Boundary.places(x), table);
        Boundary.due("bucketOf(" + key + ")", x.bucketOf(key), Boundary.NONE);
        Boundary.due("violations()", x.violations(), 0);
    }

    /** The table is built anew with another neighbourhood. */
    static void nearing(String sentence, String what, String setup, int near, int buckets, int growths, int moves, String table) {
        building(sentence, what, setup, near, buckets, growths, moves, table);
        predicting(45, sentence, what, setup, x -> Boundary.due("bucketsWith(" + near + ")", x.bucketsWith(near), buckets));
    }

    /** Only what may be another one in another order of building. */
    static void building(String sentence, String what, String setup, int near, int buckets, int growths, int moves, String table) {
        Boundary.test(9, sentence, what, () -> {
            NeighbourHash x = Boundary.after(setup);
            Boundary.due("setNeighbourhood(" + near + ")", x.setNeighbourhood(near), buckets);
            built(x, buckets, growths, moves, table);
        });
        Boundary.test(4, sentence, what, () -> built(Boundary.after(setup + "near " + near + ";"), buckets, growths, moves, table));
    }

    static void timing(String sentence, String what, String setup, int times, int buckets, int growths, int moves, String table) {
        Boundary.test(10, sentence, what, () -> {
            NeighbourHash x = Boundary.after(setup);
            Boundary.due("setMultiplier(" + times + ")", x.setMultiplier(times), buckets);
            built(x, buckets, growths, moves, table);
        });
        Boundary.test(4, sentence, what, () -> built(Boundary.after(setup + "times " + times + ";"), buckets, growths, moves, table));
    }

    static void doubling(String sentence, String what, String setup, int buckets, int growths, int moves, String table) {
        Boundary.test(12, sentence, what, () -> {
            NeighbourHash x = Boundary.after(setup);
            Boundary.due("grow()", x.grow(), buckets);
            built(x, buckets, growths, moves, table);
        });
        Boundary.test(4, sentence, what, () -> built(Boundary.after(setup + "grow;"), buckets, growths, moves, table));
    }

    private static void built(NeighbourHash x, int buckets, int growths, int moves, String table) {
        Boundary.due("the table", Boundary.places(x), table);
        Boundary.due("bucketCount()", x.bucketCount(), buckets);
        Boundary.due("growths()", x.growths(), growths);
        Boundary.due("moves()", x.moves(), moves);
        Boundary.due("violations()", x.violations(), 0);
    }

    /** Building anew fails with the neighbourhood: the call is refused and changes nothing. */
    static void notNear(String sentence, String what, String setup, int near) {
        Boundary.test(9, sentence, what, () -> {
            NeighbourHash x = Boundary.after(setup);
            Boundary.changesNothing(x, () -> Boundary.refused(() -> x.setNeighbourhood(near)));
        });
        Boundary.test(4, sentence, what, () -> ScriptCases.error(3, setup + "near " + near + "^;"));
        predicting(45, sentence, what, setup, x -> Boundary.due("bucketsWith(" + near + ")", x.bucketsWith(near), Boundary.NONE));
    }

    static void notTimes(String sentence, String what, String setup, int times) {
        Boundary.test(10, sentence, what, () -> {
            NeighbourHash x = Boundary.after(setup);
            Boundary.changesNothing(x, () -> Boundary.refused(() -> x.setMultiplier(times)));
        });
        Boundary.test(4, sentence, what, () -> ScriptCases.error(3, setup + "times " + times + "^;"));
    }

    static void notDoubled(String sentence, String what, String setup) {
        Boundary.test(12, sentence, what, () -> {
            NeighbourHash x = Boundary.after(setup);
            Boundary.changesNothing(x, () -> Boundary.refused(x::grow));
        });
        Boundary.test(4, sentence, what, () -> ScriptCases.error(3, setup + "grow^;"));
    }
}
