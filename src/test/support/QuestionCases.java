/** Boundary cases of the promises 18 to 56, each under its own sentence. */
final class QuestionCases {
    private static final String KEYS = "- `key`: a key, 0 to 9999";
    private static final String KEY_OUT_OF_RANGE = "Throws `IllegalArgumentException` if `key` is out of range";
    private static final String BUCKETS = "- `bucket`: the number of a bucket";
    private static final String NO_BUCKET = "Throws `IndexOutOfBoundsException` if `bucket` is not the number of a bucket";
    private static final String ENTRIES = "Returns the number of entries.";
    private static final String NUMBER_OF_BUCKET = "Returns the number of the bucket.";
    private static final int[] WRONG_KEYS = {Boundary.LEAST, -10000, -997, -1, 10000, 10996, 65536, Boundary.GREATEST};
    private static final String EMPTY = "table 8 3 1;";
    /** 0 to 9999, at both ends; 9999 has the home 5. */
    private static final String ENDS = "table 8 3 1;add 0 7;add 9999 8;";

    private QuestionCases() {
    }

    interface Question {
        int of(NeighbourHash x, int number);
    }

    static void list() {
        scriptError();
        settings();
        wrongBuckets();
        keyAt();
        hopBits();
        freeDistance();
        longestRun();
        fullestHome();
        wrongKeys();
        homeAndBucket();
        valueAndDistance();
        looksFor();
        distances();
        rank();
        whyNoAdd();
        placeFor();
        movesFor();
        bucketsAfter();
        pullsFor();
        bucketsWith();
        bestMultiplier();
        bestMultiplierOutOfRange();
        moves();
        pullsAndGrowths();
        accounts();
        ratios();
        violations();
        writeTable();
        reportByte();
    }

    /** The question with the number is answered so after the script. */
    private static void asked(int promise, String sentence, String what, String script, Question question, int number, int answer) {
        Boundary.test(promise, sentence, what, () -> Boundary.due(question.of(Boundary.after(script), number), answer));
    }

    private static void scriptError() {
        String kind = "Returns the kind (1 to 5) of the error of the latest script, or 0 if it had no error or no script was run.";
        String offset = "Returns the offset of the error of the latest script, or NONE if scriptErrorKind() is 0.";
        String[] wrong = {"foo", "table 8 3 0;", "table 8 3 1;add 1 1;add 1 1;", "table 8 3 1;repeat 1(repeat 1(repeat 1();););",
            "table 8 3 1;repeat 20(repeat 20(pull;););"};
        int[] offsets = {0, 10, 27, 30, 32};
        for (int i = 0; i < 5; i++) {
            int number = i;
            Boundary.test(18, kind, "kind " + (number + 1) + ", and 0 after a script without an error", () -> {
                NeighbourHash x = new NeighbourHash();
                Boundary.run(x, wrong[number]);
                Boundary.due(x.scriptErrorKind(), number + 1);
                Boundary.run(x, EMPTY);
                Boundary.due(x.scriptErrorKind(), 0);
                Boundary.run(x, wrong[number]);
                Boundary.due(x.scriptErrorKind(), number + 1);
            });
            Boundary.test(19, offset, "kind " + (number + 1) + ", and NONE after a script without an error", () -> {
                NeighbourHash x = new NeighbourHash();
                Boundary.run(x, wrong[number]);
                Boundary.due(x.scriptErrorOffset(), offsets[number]);
                Boundary.run(x, EMPTY);
                Boundary.due(x.scriptErrorOffset(), Boundary.NONE);
                Boundary.run(x, wrong[number]);
                Boundary.due(x.scriptErrorOffset(), offsets[number]);
            });
        }
        Boundary.test(18, kind, "no script was run", () -> Boundary.due(new NeighbourHash().scriptErrorKind(), 0));
        Boundary.test(19, offset, "no script was run", () -> Boundary.due(new NeighbourHash().scriptErrorOffset(), Boundary.NONE));
        Boundary.test(18, kind, "of the latest of two with errors", () -> {
            NeighbourHash x = new NeighbourHash();
            Boundary.run(x, wrong[2]);
            Boundary.run(x, wrong[0]);
            Boundary.due(x.scriptErrorKind(), 1);
        });
        Boundary.test(19, offset, "of the latest of two with errors", () -> {
            NeighbourHash x = new NeighbourHash();
            Boundary.run(x, wrong[2]);
            Boundary.run(x, wrong[1]);
            Boundary.due(x.scriptErrorOffset(), 10);
        });
        Boundary.test(19, offset, "the offset 0 is not NONE, and 600 is one", () -> {
            NeighbourHash x = new NeighbourHash();
            Boundary.run(x, "?");
            Boundary.due(x.scriptErrorOffset(), 0);
            Boundary.run(x, EMPTY + " ".repeat(584) + "pull");
            Boundary.due(x.scriptErrorKind() + " " + x.scriptErrorOffset(), "1 600");
        });
        Boundary.test(18, kind, "it stays when the input is changed", () -> {
            NeighbourHash x = new NeighbourHash();
            Boundary.run(x, wrong[1]);
            x.append(0, 0, 0, 0, 0);
            x.truncateInput(0);
            x.clear();
            Boundary.due(x.scriptErrorKind() + " " + x.scriptErrorOffset(), "2 10");
        });
    }

    private static void settings() {
        String buckets = "Returns the number of buckets.";
        Boundary.test(20, buckets, "8 to 64", () -> {
            NeighbourHash x = new NeighbourHash();
            Boundary.due(x.bucketCount() + " " + x.grow() + " " + x.bucketCount(), "8 16 16");
            x.grow();
            x.grow();
            Boundary.due(x.bucketCount(), 64);
            x.undo();
            Boundary.due(x.bucketCount(), 32);
        });
        Boundary.test(21, ENTRIES, "0, 1, 5 and 64", () -> {
            Boundary.due(Boundary.after(EMPTY).entryCount(), 0);
            Boundary.due(Boundary.after(EMPTY + "add 0 0;").entryCount(), 1);
            Boundary.due(new NeighbourHash().entryCount(), 5);
            Boundary.due(Boundary.after(Boundary.FULL_64).entryCount(), 64);
        });
        Boundary.test(21, ENTRIES, "after put of a key that there is, a removed one and clear", () -> {
            NeighbourHash x = new NeighbourHash();
            x.put(1, 1);
            Boundary.due(x.entryCount(), 5);
            x.remove(1);
            Boundary.due(x.entryCount(), 4);
            x.grow();
            Boundary.due(x.entryCount(), 4);
            x.clear();
            Boundary.due(x.entryCount(), 0);
        });
        Boundary.test(22, "Returns the neighbourhood H.", "2 and 6", () -> {
            Boundary.due(Boundary.after("table 8 2 1;").neighbourhood(), 2);
            Boundary.due(Boundary.after("table 8 6 1;").neighbourhood(), 6);
            Boundary.due(Boundary.after("table 8 6 1;near 2;").neighbourhood(), 2);
        });
        Boundary.test(23, "Returns the multiplier.", "1 and 99", () -> {
            Boundary.due(Boundary.after("table 8 3 1;").multiplier(), 1);
            Boundary.due(Boundary.after("table 8 3 99;").multiplier(), 99);
            Boundary.due(Boundary.after("table 8 3 1;times 99;").multiplier(), 99);
        });
        Boundary.test(24, "Returns whether pulling is on.", "of a new object, and switched", () -> {
            NeighbourHash x = new NeighbourHash();
            Boundary.due(x.isPulling(), true);
            x.setPulling(false);
            Boundary.due(x.isPulling(), false);
            x.clear();
            x.grow();
            Boundary.due(x.isPulling(), false);
        });
    }

    // ---- buckets

    private static void wrongBuckets() {
        Question[] questions = {NeighbourHash::keyAt, NeighbourHash::valueAt, NeighbourHash::hopBits, NeighbourHash::entriesOf, NeighbourHash::freeDistance};
        for (int i = 0; i < 5; i++) {
            Question question = questions[i];
            int promise = 25 + i;
            for (int n : Boundary.SIZES) {
                Boundary.test(promise, NO_BUCKET, "of " + n, () -> {
                    NeighbourHash x = Boundary.after("table " + n + " 3 1;");
                    for (int bucket : new int[] {Boundary.LEAST, -n, -1, n, n + 1, 2 * n, 999, Boundary.GREATEST}) {
                        Boundary.outside(() -> question.of(x, bucket));
                    }
                });
                Boundary.test(promise, BUCKETS, "each of " + n, () -> {
                    NeighbourHash x = Boundary.after("table " + n + " 3 1;");
                    int free = promise <= 26 ? Boundary.NONE : 0;
                    for (int b = 0; b < n; b++) {
                        Boundary.due(question.of(x, b), free);
                    }
                });
            }
            Boundary.test(promise, NO_BUCKET, "of a table that had more, and one that has grown", () -> {
                NeighbourHash x = Boundary.after("table 8 3 1;");
                x.grow();
                question.of(x, 15);
                Boundary.outside(() -> question.of(x, 16));
                x.undo();
                Boundary.outside(() -> question.of(x, 8));
                question.of(x, 7);
            });
        }
    }

    private static void keyAt() {
        String key = "Returns the key, or NONE if the bucket is free.";
        asked(25, "Returns the key of the entry in a bucket.", "not its home", "table 8 3 1;add 1 1;add 9 1;", NeighbourHash::keyAt, 2, 9);
        asked(25, key, "free in a table without entries", EMPTY, NeighbourHash::keyAt, 0, Boundary.NONE);
        asked(25, key, "free next to entries", "table 8 3 1;add 1 1;add 3 1;", NeighbourHash::keyAt, 2, Boundary.NONE);
        asked(25, key, "free again", "table 8 3 1;add 1 1;remove 1;", NeighbourHash::keyAt, 1, Boundary.NONE);
        asked(25, key, "free again after clear", "table 8 3 1;add 1 1;clear;", NeighbourHash::keyAt, 1, Boundary.NONE);
        asked(25, key, "the key 0", ENDS, NeighbourHash::keyAt, 0, 0);
        asked(25, key, "the key 9999", ENDS, NeighbourHash::keyAt, 5, 9999);
        String value = "Returns the value, or NONE if the bucket is free.";
        asked(26, "Returns the value of the entry in a bucket.", "not its home", "table 8 3 1;add 1 1;add 9 2;", NeighbourHash::valueAt, 2, 2);
        asked(26, value, "free in a table without entries", EMPTY, NeighbourHash::valueAt, 0, Boundary.NONE);
        asked(26, value, "free next to entries", "table 8 3 1;add 1 1;add 3 1;", NeighbourHash::valueAt, 2, Boundary.NONE);
        asked(26, value, "free again", "table 8 3 1;add 1 1;remove 1;", NeighbourHash::valueAt, 1, Boundary.NONE);
        asked(26, value, "free again after clear", "table 8 3 1;add 1 1;clear;", NeighbourHash::valueAt, 1, Boundary.NONE);
        asked(26, value, "the value 0", "table 8 3 1;add 1 0;", NeighbourHash::valueAt, 1, 0);
        asked(26, value, "the value 999", "table 8 3 1;add 1 999;", NeighbourHash::valueAt, 1, 999);
    }

    private static void hopBits() {
        asked(27, "Returns the hop bits of a bucket.", "a free bucket may be a home", "table 8 3 1;add 1 1;add 9 1;remove 1;", NeighbourHash::hopBits, 1, 2);
        asked(27, "Returns the hop bits as a number.", "none", EMPTY, NeighbourHash::hopBits, 0, 0);
        asked(27, "Returns the hop bits as a number.", "63", "table 8 6 1;row 3 8 6;", NeighbourHash::hopBits, 3, 63);
        asked(27, "Returns the hop bits as a number.", "32", "table 8 6 1;row 3 8 6;remove 3;remove 11;remove 19;remove 27;remove 35;",
            NeighbourHash::hopBits, 3, 32);
        asked(27, "Returns the hop bits as a number.", "none after clear", "table 8 3 1;add 1 1;clear;", NeighbourHash::hopBits, 1, 0);
        asked(28, "Returns how many entries have a bucket as their home.", "a free bucket may be a home", "table 8 3 1;add 1 1;add 9 1;remove 1;",
            NeighbourHash::entriesOf, 1, 1);
        asked(28, "Returns how many entries have a bucket as their home.", "a bucket with an entry of another home", "table 8 3 1;add 1 1;add 9 1;",
            NeighbourHash::entriesOf, 2, 0);
        asked(28, ENTRIES, "none", EMPTY, NeighbourHash::entriesOf, 0, 0);
        asked(28, ENTRIES, "six", "table 8 6 1;row 3 8 6;", NeighbourHash::entriesOf, 3, 6);
        asked(28, ENTRIES, "one, as far as it may", "table 8 6 1;row 3 8 6;remove 3;remove 11;remove 19;remove 27;remove 35;", NeighbourHash::entriesOf, 3, 1);
    }

    private static void freeDistance() {
        String smallest = "Returns the smallest distance of a free bucket from a bucket.";
        asked(29, smallest, "of two free ones the nearer", "table 8 3 1;row 1 1 2;add 4 1;", NeighbourHash::freeDistance, 1, 2);
        asked(29, smallest, "forwards, not backwards", "table 8 3 1;row 1 1 2;", NeighbourHash::freeDistance, 2, 1);
        asked(29, smallest, "over the end", "table 8 3 1;row 6 1 2;add 0 1;", NeighbourHash::freeDistance, 6, 3);
        String returns = "Returns the distance, 0 if it is free itself, or NONE if no bucket is free.";
        asked(29, returns, "free itself", "table 8 3 1;add 2 1;", NeighbourHash::freeDistance, 1, 0);
        asked(29, returns, "free itself, the only one", "table 8 6 1;row 0 1 7;", NeighbourHash::freeDistance, 7, 0);
        asked(29, returns, "the only free one is in front of it", "table 8 6 1;row 0 1 7;", NeighbourHash::freeDistance, 0, 7);
        asked(29, returns, "all are free", EMPTY, NeighbourHash::freeDistance, 7, 0);
        asked(29, returns, "none of 8 is free", Boundary.FULL_8, NeighbourHash::freeDistance, 0, Boundary.NONE);
        asked(29, returns, "none of 64 is free", Boundary.FULL_64, NeighbourHash::freeDistance, 63, Boundary.NONE);
        asked(29, returns, "the only free one of 64 is in front of it", Boundary.FULL_64 + "remove 40;", NeighbourHash::freeDistance, 41, 63);
    }

    private static void longestRun() {
        String run = "Returns the greatest number of buckets with entries, one behind the other; bucket 0 is behind the last one; at most all.";
        Question question = (x, none) -> x.longestRun();
        asked(30, run, "without entries", EMPTY, question, 0, 0);
        asked(30, run, "one entry", "table 8 3 1;add 7 1;", question, 0, 1);
        asked(30, run, "one entry in each second bucket", "table 8 3 1;row 0 2 4;", question, 0, 1);
        asked(30, run, "the last and bucket 0", "table 8 3 1;add 7 1;add 0 1;", question, 0, 2);
        asked(30, run, "a run over the end that is the longest", "table 8 3 1;row 6 1 2;row 0 1 2;row 3 1 2;", question, 0, 4);
        asked(30, run, "a run over the end that is not", "table 8 3 1;add 7 1;add 0 1;row 2 1 4;", question, 0, 4);
        asked(30, run, "the first of two", "table 8 3 1;row 0 1 3;row 4 1 2;", question, 0, 3);
        asked(30, run, "the last of two", "table 8 3 1;row 0 1 2;row 4 1 3;", question, 0, 3);
        asked(30, run, "all but one", "table 8 3 1;row 0 1 3;row 4 1 4;", question, 0, 7);
        asked(30, run, "all but the last", "table 8 3 1;row 0 1 7;", question, 0, 7);
        asked(30, run, "all but bucket 0", "table 8 3 1;row 1 1 7;", question, 0, 7);
        asked(30, run, "all 8", Boundary.FULL_8, question, 0, 8);
        asked(30, run, "all 64", Boundary.FULL_64, question, 0, 64);
        asked(30, run, "63 of 64, over the end", Boundary.FULL_64 + "remove 40;", question, 0, 63);
        asked(30, run, "over the end of 64", "table 64 3 1;row 54 1 20;", question, 0, 20);
    }

    private static void fullestHome() {
        String home = "Returns the bucket that is the home of the most entries, of several the smallest one; NONE if there is no entry.";
        Question question = (x, none) -> x.fullestHome();
        asked(31, home, "without entries", EMPTY, question, 0, Boundary.NONE);
        asked(31, home, "after clear", "table 8 3 1;add 5 1;clear;", question, 0, Boundary.NONE);
        asked(31, home, "bucket 0", "table 8 3 1;add 0 1;", question, 0, 0);
        asked(31, home, "the last bucket", "table 8 3 1;add 7 1;", question, 0, 7);
        asked(31, home, "of two with one each the smaller", "table 8 3 1;add 7 1;add 2 1;", question, 0, 2);
        asked(31, home, "of two with two each the smaller", "table 8 3 1;row 3 8 2;row 6 8 2;add 1 1;", question, 0, 3);
        asked(31, home, "the greater one has more", "table 8 3 1;add 2 1;row 6 8 2;", question, 0, 6);
        asked(31, home, "of the most entries, not of the greatest hop bits", "table 8 3 1;row 1 8 2;row 5 8 3;remove 5;remove 13;", question, 0, 1);
        asked(31, home, "of the most entries, the greater one with smaller hop bits", "table 8 3 1;row 1 8 3;remove 1;remove 9;row 5 8 2;", question, 0, 5);
        asked(31, home, "all are homes of one", Boundary.FULL_8, question, 0, 0);
        asked(31, home, "its own bucket is free", "table 8 3 1;row 4 8 3;remove 4;add 1 1;", question, 0, 4);
    }

    // ---- entries

    private static void wrongKeys() {
        Question[] questions = {NeighbourHash::homeOf, NeighbourHash::bucketOf, NeighbourHash::valueOf, NeighbourHash::distanceOf, NeighbourHash::looksFor,
            NeighbourHash::rank, NeighbourHash::whyNoAdd, NeighbourHash::placeFor, NeighbourHash::movesFor, NeighbourHash::bucketsAfter, NeighbourHash::pullsFor};
        int[] promises = {32, 33, 34, 35, 36, 39, 40, 41, 42, 43, 44};
        // For 0 and 9999, in a table that has both and in one that has neither.
        int[][] due = {{0, 5, 0, 5}, {0, 5, -1, -1}, {7, 8, -1, -1}, {0, 0, -1, -1}, {1, 1, 0, 0}, {0, 1, 0, 0}, {1, 1, 0, 0}, {-1, -1, 0, 5},
            {-1, -1, 0, 0}, {-1, -1, 8, 8}, {0, 0, -1, -1}};
        for (int i = 0; i < questions.length; i++) {
            Question question = questions[i];
            int[] answers = due[i];
            Boundary.test(promises[i], KEY_OUT_OF_RANGE, "with and without entries", () -> {
                NeighbourHash x = new NeighbourHash();
                NeighbourHash y = Boundary.after(EMPTY);
                for (int key : WRONG_KEYS) {
                    Boundary.illegal(() -> question.of(x, key));
                    Boundary.illegal(() -> question.of(y, key));
                }
            });
            Boundary.test(promises[i], KEYS, "0 and 9999", () -> {
                NeighbourHash x = Boundary.after(ENDS);
                NeighbourHash y = Boundary.after(EMPTY);
                Boundary.due(question.of(x, 0) + " " + question.of(x, 9999) + " " + question.of(y, 0) + " " + question.of(y, 9999),
                    answers[0] + " " + answers[1] + " " + answers[2] + " " + answers[3]);
            });
        }
    }

    private static void homeAndBucket() {
        asked(32, "Returns the home of a key, whether there is an entry with it or not.", "there is one, elsewhere", "table 8 3 1;row 1 8 2;",
            NeighbourHash::homeOf, 9, 1);
        asked(32, "Returns the home of a key, whether there is an entry with it or not.", "there is none", EMPTY, NeighbourHash::homeOf, 9, 1);
        asked(32, "Returns the home of a key, whether there is an entry with it or not.", "none could be added", Boundary.STUCK, NeighbourHash::homeOf, 1999, 5);
        asked(32, NUMBER_OF_BUCKET, "0", EMPTY, NeighbourHash::homeOf, 8, 0);
        asked(32, NUMBER_OF_BUCKET, "63", "table 64 3 1;", NeighbourHash::homeOf, 63, 63);
        asked(32, NUMBER_OF_BUCKET, "63, the key is greater than 997", "table 64 3 1;", NeighbourHash::homeOf, 1060, 63);
        asked(33, "Returns the bucket of the entry with a key.", "not its home", "table 8 3 1;row 1 8 2;", NeighbourHash::bucketOf, 9, 2);
        asked(33, "Returns the bucket of the entry with a key.", "bucket 0", "table 8 3 1;add 0 1;", NeighbourHash::bucketOf, 0, 0);
        String bucket = "Returns the number of the bucket, or NONE if there is none.";
        asked(33, bucket, "no entry at all", EMPTY, NeighbourHash::bucketOf, 0, Boundary.NONE);
        asked(33, bucket, "only another one of its home", "table 8 3 1;add 1 1;", NeighbourHash::bucketOf, 9, Boundary.NONE);
        asked(33, bucket, "only another one with the same remainder", "table 8 3 1;add 1 1;", NeighbourHash::bucketOf, 998, Boundary.NONE);
        asked(33, bucket, "removed", "table 8 3 1;add 1 1;remove 1;", NeighbourHash::bucketOf, 1, Boundary.NONE);
        asked(33, bucket, "cleared", "table 8 3 1;add 1 1;clear;", NeighbourHash::bucketOf, 1, Boundary.NONE);
        asked(33, bucket, "bucket 63", Boundary.FULL_64, NeighbourHash::bucketOf, 63, 63);
    }

    private static void valueAndDistance() {
        asked(34, "Returns the value of the entry with a key.", "not the one in its home", "table 8 3 1;add 1 1;add 9 2;", NeighbourHash::valueOf, 9, 2);
        String value = "Returns the value, or NONE if there is none.";
        asked(34, value, "the value 0", "table 8 3 1;add 1 0;", NeighbourHash::valueOf, 1, 0);
        asked(34, value, "the value 999", "table 8 3 1;add 1 999;", NeighbourHash::valueOf, 1, 999);
        asked(34, value, "no entry at all", EMPTY, NeighbourHash::valueOf, 0, Boundary.NONE);
        asked(34, value, "only another one of its home", "table 8 3 1;add 1 1;", NeighbourHash::valueOf, 9, Boundary.NONE);
        asked(34, value, "removed", "table 8 3 1;add 1 1;remove 1;", NeighbourHash::valueOf, 1, Boundary.NONE);
        asked(34, value, "cleared", "table 8 3 1;add 1 1;clear;", NeighbourHash::valueOf, 1, Boundary.NONE);
        asked(35, "Returns the distance of the entry with a key from its home.", "H-1", "table 8 6 1;row 3 8 6;", NeighbourHash::distanceOf, 43, 5);
        asked(35, "Returns the distance of the entry with a key from its home.", "over the end", "table 8 6 1;row 7 8 6;", NeighbourHash::distanceOf, 47, 5);
        asked(35, "Returns the distance of the entry with a key from its home.", "displaced", "table 8 2 1;row 1 1 2;add 9 1;", NeighbourHash::distanceOf, 2, 1);
        asked(35, "Returns the distance of the entry with a key from its home.", "pulled", "table 8 3 1;row 1 8 2;pull;remove 1;", NeighbourHash::distanceOf, 9, 0);
        String distance = "Returns the distance, or NONE if there is none.";
        asked(35, distance, "in its home", "table 8 3 1;add 1 1;", NeighbourHash::distanceOf, 1, 0);
        asked(35, distance, "no entry at all", EMPTY, NeighbourHash::distanceOf, 0, Boundary.NONE);
        asked(35, distance, "only another one of its home", "table 8 3 1;add 1 1;", NeighbourHash::distanceOf, 9, Boundary.NONE);
        asked(35, distance, "removed", "table 8 3 1;add 1 1;remove 1;", NeighbourHash::distanceOf, 1, Boundary.NONE);
    }

    private static void looksFor() {
        String looks = "Returns how many entries are looked at to find a key: those at the set hop bits of its home, from bit 0 on, until it is found.";
        String crowd = "table 8 6 1;row 3 8 6;";
        for (int i = 0; i < 6; i++) {
            asked(36, looks, "at bit " + i, crowd, NeighbourHash::looksFor, 3 + 8 * i, i + 1);
        }
        asked(36, looks, "bits that are not set are passed over", crowd + "remove 3;remove 19;", NeighbourHash::looksFor, 43, 4);
        asked(36, looks, "entries of other homes in between are not looked at", "table 8 3 1;row 1 1 2;add 9 1;", NeighbourHash::looksFor, 9, 2);
        String all = "Returns the number of entries, all of its home if there is no entry with the key.";
        asked(36, all, "no entry of its home", "table 8 3 1;add 1 1;", NeighbourHash::looksFor, 2, 0);
        asked(36, all, "an entry of another home in its home", "table 8 3 1;row 1 8 2;", NeighbourHash::looksFor, 2, 0);
        asked(36, all, "no entry at all", EMPTY, NeighbourHash::looksFor, 0, 0);
        asked(36, all, "one of its home", "table 8 3 1;add 1 1;", NeighbourHash::looksFor, 9, 1);
        asked(36, all, "six of its home", crowd, NeighbourHash::looksFor, 51, 6);
        asked(36, all, "removed", "table 8 3 1;row 1 8 3;remove 17;", NeighbourHash::looksFor, 17, 2);
    }

    private static void distances() {
        String longest = "Returns the greatest distance of an entry from its home, 0 without entries.";
        Question greatest = (x, none) -> x.longestDistance();
        asked(37, longest, "without entries", EMPTY, greatest, 0, 0);
        asked(37, longest, "all in their homes", Boundary.FULL_8, greatest, 0, 0);
        asked(37, longest, "the first bucket of several", "table 8 6 1;row 7 8 4;add 5 1;", greatest, 0, 3);
        asked(37, longest, "H-1 is 5", "table 8 6 1;row 3 8 6;", greatest, 0, 5);
        asked(37, longest, "none any more", "table 8 3 1;row 1 8 3;remove 9;remove 17;", greatest, 0, 0);
        Question sum = (x, none) -> x.sumOfDistances();
        asked(38, "Returns the sum of the distances of all entries from their homes.", "without entries", EMPTY, sum, 0, 0);
        asked(38, "Returns the sum of the distances of all entries from their homes.", "all in their homes", Boundary.FULL_64, sum, 0, 0);
        asked(38, "Returns the sum of the distances of all entries from their homes.", "0 to 5", "table 8 6 1;row 3 8 6;", sum, 0, 15);
        asked(38, "Returns the sum of the distances of all entries from their homes.", "free buckets add nothing", "table 64 6 1;row 62 64 3;", sum, 0, 3);
    }

    private static void rank() {
        String smaller = "Returns how many entries have a smaller key.";
        asked(39, smaller, "its own entry does not count", "table 8 3 1;row 1 1 3;", NeighbourHash::rank, 2, 1);
        asked(39, smaller, "there is no entry with it", "table 8 3 1;add 1 1;add 3 1;", NeighbourHash::rank, 2, 1);
        asked(39, smaller, "the key, not the bucket", "table 8 3 1;add 7 1;add 8 1;", NeighbourHash::rank, 8, 1);
        asked(39, ENTRIES, "the smallest", "table 8 3 1;row 1 1 3;", NeighbourHash::rank, 1, 0);
        asked(39, ENTRIES, "one greater than the greatest", "table 8 3 1;row 1 1 3;", NeighbourHash::rank, 4, 3);
        asked(39, ENTRIES, "without entries", EMPTY, NeighbourHash::rank, 9999, 0);
        asked(39, ENTRIES, "the key 0 with an entry of it", "table 8 3 1;add 0 1;", NeighbourHash::rank, 0, 0);
        asked(39, ENTRIES, "an entry with the key 0", "table 8 3 1;add 0 1;", NeighbourHash::rank, 1, 1);
        asked(39, ENTRIES, "all 64", Boundary.FULL_64, NeighbourHash::rank, 9999, 64);
    }

    // ---- reasons and predictions

    private static void whyNoAdd() {
        String why = "Returns why an entry with a key could not be added.";
        String returns = "Returns ALLOWED, PRESENT if there is one, or NO_PLACE if there would be more than 64 buckets.";
        Boundary.test(40, "`ALLOWED = 0, PRESENT = 1, NO_PLACE = 2`: Why an entry cannot be added, and 0 if it can.", "their numbers", () ->
            Boundary.due(NeighbourHash.ALLOWED + " " + NeighbourHash.PRESENT + " " + NeighbourHash.NO_PLACE, "0 1 2"));
        asked(40, why, "removed before", "table 8 3 1;add 1 1;remove 1;", NeighbourHash::whyNoAdd, 1, 0);
        asked(40, returns, "the table would grow", Boundary.FULL_8, NeighbourHash::whyNoAdd, 8, 0);
        asked(40, returns, "the table would grow to 64", "table 8 2 1;row 1 32 2;", NeighbourHash::whyNoAdd, 65, 0);
        asked(40, returns, "the last place of 64", Boundary.FULL_64 + "remove 40;", NeighbourHash::whyNoAdd, 40, 0);
        asked(40, returns, "present where no other would have a place", Boundary.STUCK, NeighbourHash::whyNoAdd, 5, 1);
        asked(40, returns, "present in a full table", Boundary.FULL_64, NeighbourHash::whyNoAdd, 63, 1);
        asked(40, returns, "no place in a full table", Boundary.FULL_64, NeighbourHash::whyNoAdd, 64, 2);
        asked(40, returns, "no place, from 8 buckets", Boundary.STUCK, NeighbourHash::whyNoAdd, 1999, 2);
        Boundary.test(40, returns, "as add does", () -> {
            NeighbourHash x = Boundary.after(Boundary.STUCK);
            Boundary.refused(() -> x.add(1999, 0));
            Boundary.refused(() -> x.add(5, 0));
            Boundary.due(x.whyNoAdd(1999) + " " + x.whyNoAdd(5) + " " + x.whyNoAdd(6) + " " + x.add(6, 0), "2 1 0 7");
        });
    }

    private static void placeFor() {
        String place = "Returns the bucket that an entry with a key would get if it was added.";
        String returns = "Returns the number of the bucket, or NONE if it could not be added.";
        asked(41, place, "with displaced entries", "table 8 2 1;row 1 1 5;", NeighbourHash::placeFor, 9, 2);
        asked(41, place, "in a table that would have grown", "table 8 2 1;row 1 8 2;", NeighbourHash::placeFor, 25, 10);
        asked(41, returns, "bucket 0", EMPTY, NeighbourHash::placeFor, 0, 0);
        asked(41, returns, "bucket 63", "table 64 2 1;", NeighbourHash::placeFor, 63, 63);
        asked(41, returns, "there is one", "table 8 3 1;add 1 1;", NeighbourHash::placeFor, 1, Boundary.NONE);
        asked(41, returns, "no place", Boundary.STUCK, NeighbourHash::placeFor, 1999, Boundary.NONE);
        asked(41, returns, "a full table", Boundary.FULL_64, NeighbourHash::placeFor, 64, Boundary.NONE);
    }

    private static void movesFor() {
        String moves = "Returns how many entries would be displaced if an entry with a key was added.";
        String returns = "Returns the number of entries that move in the present table, 0 if the table would grow; NONE if it could not be added.";
        asked(42, moves, "those that were displaced before do not count", "table 8 2 1;row 1 1 2;add 9 1;", NeighbourHash::movesFor, 4, 0);
        asked(42, moves, "those that were displaced before do not count, three more do", "table 16 2 1;row 1 1 2;add 17 1;row 5 1 4;", NeighbourHash::movesFor, 21, 3);
        asked(42, returns, "none", EMPTY, NeighbourHash::movesFor, 1, 0);
        asked(42, returns, "four", "table 8 2 1;row 1 1 5;", NeighbourHash::movesFor, 9, 4);
        asked(42, returns, "it would grow, after some were displaced in vain", "table 8 2 1;row 0 8 2;row 2 1 2;", NeighbourHash::movesFor, 16, 0);
        asked(42, returns, "it would grow, and some be displaced in the new table", "table 8 2 1;row 1 1 2;add 17 1;", NeighbourHash::movesFor, 33, 0);
        asked(42, returns, "it would grow once, and one be displaced in the new table", "table 8 2 1;row 1 8 2;add 2 1;", NeighbourHash::movesFor, 17, 0);
        asked(42, returns, "it would grow once, and none be displaced, but one was before", "table 8 2 1;row 1 1 2;add 9 1;", NeighbourHash::movesFor, 25, 0);
        asked(42, returns, "it would grow, and the moves before were as many", "table 8 2 1;row 1 1 5;add 9 1;", NeighbourHash::movesFor, 17, 0);
        asked(42, returns, "there is one", "table 8 3 1;add 1 1;", NeighbourHash::movesFor, 1, Boundary.NONE);
        asked(42, returns, "no place", Boundary.STUCK, NeighbourHash::movesFor, 1999, Boundary.NONE);
        asked(42, returns, "no place after some were displaced in vain", "table 64 2 1;row 0 64 2;row 2 1 2;", NeighbourHash::movesFor, 128, Boundary.NONE);
    }

    private static void bucketsAfter() {
        String after = "Returns how many buckets there would be if an entry with a key was added.";
        String returns = "Returns the number of buckets, or NONE if it could not be added.";
        asked(43, after, "with displaced entries", "table 8 2 1;row 1 1 5;", NeighbourHash::bucketsAfter, 9, 8);
        asked(43, returns, "as many as now", "table 32 2 1;", NeighbourHash::bucketsAfter, 9, 32);
        asked(43, returns, "16", "table 8 2 1;row 1 8 2;", NeighbourHash::bucketsAfter, 17, 16);
        asked(43, returns, "32", "table 8 2 1;row 1 16 2;", NeighbourHash::bucketsAfter, 33, 32);
        asked(43, returns, "64", "table 8 2 1;row 1 32 2;", NeighbourHash::bucketsAfter, 65, 64);
        asked(43, returns, "there is one", "table 8 3 1;add 1 1;", NeighbourHash::bucketsAfter, 1, Boundary.NONE);
        asked(43, returns, "no place", Boundary.STUCK, NeighbourHash::bucketsAfter, 1999, Boundary.NONE);
        asked(43, returns, "a full table", Boundary.FULL_64, NeighbourHash::bucketsAfter, 64, Boundary.NONE);
    }

    private static void pullsFor() {
        String pulled = "Returns how many entries would be pulled if the entry with a key was removed.";
        String returns = "Returns the number of entries, or NONE if there is no entry with the key.";
        asked(44, pulled, "pulling is off", "table 8 3 1;row 1 8 2;add 2 1;", NeighbourHash::pullsFor, 1, 0);
        asked(44, pulled, "pulling is on", "table 8 3 1;row 1 8 2;add 2 1;pull;", NeighbourHash::pullsFor, 1, 2);
        asked(44, pulled, "those that were pulled before do not count", "table 8 3 1;row 1 8 3;pull;remove 1;", NeighbourHash::pullsFor, 17, 1);
        asked(44, returns, "none", "table 8 3 1;row 1 8 2;pull;", NeighbourHash::pullsFor, 9, 0);
        asked(44, returns, "ten", "table 16 2 1;row 1 16 2;row 2 1 9;pull;", NeighbourHash::pullsFor, 1, 10);
        asked(44, returns, "no entry at all", "table 8 3 1;pull;", NeighbourHash::pullsFor, 0, Boundary.NONE);
        asked(44, returns, "only another one of its home", "table 8 3 1;add 1 1;pull;", NeighbourHash::pullsFor, 9, Boundary.NONE);
        asked(44, returns, "no entry, and pulling is off", "table 8 3 1;add 1 1;", NeighbourHash::pullsFor, 9, Boundary.NONE);
        asked(44, returns, "removed", "table 8 3 1;add 1 1;pull;remove 1;", NeighbourHash::pullsFor, 1, Boundary.NONE);
    }

    private static void bucketsWith() {
        String with = "Returns how many buckets there would be with another neighbourhood.";
        String returns = "Returns the number of buckets after setNeighbourhood(near), or NONE if it would fail.";
        asked(45, with, "with the one that it has", "table 8 3 1;row 1 8 3;", NeighbourHash::bucketsWith, 3, 8);
        asked(45, with, "without entries", "table 32 3 1;", NeighbourHash::bucketsWith, 2, 32);
        Boundary.test(45, "- `near`: 2 to 6", "2 to 6", () -> {
            NeighbourHash x = Boundary.after("table 8 6 1;row 1 8 6;");
            Boundary.due(x.bucketsWith(2) + " " + x.bucketsWith(3) + " " + x.bucketsWith(4) + " " + x.bucketsWith(5) + " " + x.bucketsWith(6), "32 16 16 16 8");
        });
        asked(45, returns, "as many as now", "table 8 3 1;row 1 8 2;", NeighbourHash::bucketsWith, 2, 8);
        asked(45, returns, "16", "table 8 3 1;row 1 8 3;", NeighbourHash::bucketsWith, 2, 16);
        asked(45, returns, "32", "table 8 3 1;row 1 16 3;", NeighbourHash::bucketsWith, 2, 32);
        asked(45, returns, "64", "table 8 3 1;row 1 32 3;", NeighbourHash::bucketsWith, 2, 64);
        asked(45, returns, "it would fail, from 8", "table 8 3 1;row 5 997 3;", NeighbourHash::bucketsWith, 2, Boundary.NONE);
        asked(45, returns, "it would fail, from 64", "table 64 3 1;row 5 997 3;", NeighbourHash::bucketsWith, 2, Boundary.NONE);
        Boundary.test(45, "Throws `IllegalArgumentException` if `near` is out of range", "1, 7 and others", () -> {
            NeighbourHash x = new NeighbourHash();
            for (int near : new int[] {Boundary.LEAST, -1, 0, 1, 7, 8, 64, Boundary.GREATEST}) {
                Boundary.illegal(() -> x.bucketsWith(near));
            }
        });
    }

    private static void bestMultiplier() {
        String best = "Returns the multiplier with which the sum of the distances would be smallest after setMultiplier().";
        String returns = "Returns the multiplier with which the number of buckets would not change and the sum is smallest,"
            + " of several the smallest one; NONE if there is none.";
        // With 1 the homes are 1, 1 and 2 and the sum is 2; with 2 they are 2, 2 and 4 and the sum is 1.
        String two = "table 16 3 1;row 1 16 2;add 2 3;";
        asked(46, best, "not the present one", two, NeighbourHash::bestMultiplier, 2, 2);
        asked(46, best, "the sum after building anew, not the present one", "table 8 3 1;row 1 8 2;remove 1;", NeighbourHash::bestMultiplier, 1, 1);
        asked(46, best, "the present one is not tried", "table 16 3 2;row 1 16 2;add 2 3;", NeighbourHash::bestMultiplier, 1, 1);
        asked(46, returns, "of several with the sum 0 the smallest", "table 8 3 9;row 1 1 3;", NeighbourHash::bestMultiplier, 30, 1);
        asked(46, returns, "of several with the sum 1 the smallest", two, NeighbourHash::bestMultiplier, 30, 2);
        asked(46, returns, "without entries", "table 8 3 99;", NeighbourHash::bestMultiplier, 30, 1);
        // With 1 the homes are 53, 53 and 53.
        String none = "table 64 2 2;add 501 1;add 565 2;add 53 3;";
        asked(46, returns, "with the only one it would fail", none, NeighbourHash::bestMultiplier, 1, Boundary.NONE);
        asked(46, returns, "with the first one it would fail", none, NeighbourHash::bestMultiplier, 2, 2);
        // With 1 the homes in 8 buckets are 1, 1 and 1, and with 2 they are 2, 2 and 2.
        String doubled = "table 8 2 55;add 25 1;add 33 1;add 65 1;";
        asked(46, returns, "with the only one it would be doubled", doubled, NeighbourHash::bestMultiplier, 1, Boundary.NONE);
        asked(46, returns, "with both it would be doubled", doubled, NeighbourHash::bestMultiplier, 2, Boundary.NONE);
    }

    private static void bestMultiplierOutOfRange() {
        String most = "- `most`: the greatest multiplier that is tried, from 1 on; 1 to 30";
        Boundary.test(46, most, "1, and 30", () -> {
            NeighbourHash x = new NeighbourHash();
            Boundary.due(x.bestMultiplier(1), 1);
            Boundary.due(x.bestMultiplier(30) >= 1, true);
        });
        Boundary.test(46, most, "the greatest one is tried, the one behind it is not", () -> {
            NeighbourHash x = Boundary.after("table 16 3 1;row 1 16 2;add 2 3;");
            Boundary.due(x.bestMultiplier(1) + " " + x.bestMultiplier(2) + " " + x.bestMultiplier(3), "1 2 2");
        });
        Boundary.test(46, most, "1 is tried, too", () -> Boundary.due(Boundary.after("table 8 3 9;row 1 1 3;").bestMultiplier(30), 1));
        Boundary.test(46, most, "30 is tried", () -> Boundary.due(thirty().bestMultiplier(30), 30));
        Boundary.test(46, most, "30 is not tried", () -> Boundary.due(thirty().bestMultiplier(29) != 30, true));
        Boundary.test(46, "Throws `IllegalArgumentException` if `most` is out of range", "0, 31 and others", () -> {
            NeighbourHash x = new NeighbourHash();
            for (int wrong : new int[] {Boundary.LEAST, -1, 0, 31, 99, 100, Boundary.GREATEST}) {
                Boundary.illegal(() -> x.bestMultiplier(wrong));
            }
        });
    }

    /** A table for which 30 is the best of the multipliers 1 to 30. */
    private static NeighbourHash thirty() {
        return Boundary.after("table 16 3 1;put 44 1;put 712 1;put 888 1;put 41 1;put 938 1;put 273 1;put 883 1;put 664 1;");
    }

    // ---- accounts and checks

    private static void moves() {
        String moves = "Returns the number of entries that were displaced to find places since the latest building began or since the table was cleared,"
            + " those for the building included.";
        Question question = (x, none) -> x.moves();
        asked(47, moves, "without entries", EMPTY, question, 0, 0);
        asked(47, moves, "two entries of one change", "table 16 3 1;row 1 1 6;add 17 1;", question, 0, 2);
        // The entry 3 goes from its home to the bucket 4 for the entry 33, and to the bucket 5 for the entry 2.
        asked(47, moves, "one entry displaced twice counts twice", "table 16 3 1;row 1 16 2;row 3 30 2;add 2 1;", question, 0, 2);
        asked(47, moves, "the moves of several changes", "table 16 2 1;row 1 1 2;add 17 1;row 5 1 2;add 21 1;", question, 0, 2);
        asked(47, moves, "none since the building", "table 8 2 1;row 1 1 2;add 9 1;grow;", question, 0, 0);
        asked(47, moves, "those for the building", "table 8 3 1;row 1 1 2;add 9 1;near 2;", question, 0, 1);
        asked(47, moves, "those for the building and those since", "table 16 3 1;row 1 1 2;add 17 1;near 2;row 5 1 2;add 21 1;", question, 0, 2);
        asked(47, moves, "none since it was cleared", "table 8 2 1;row 1 1 2;add 9 1;clear;", question, 0, 0);
        asked(47, moves, "those since it was cleared", "table 8 2 1;row 1 1 5;add 9 1;clear;row 1 1 2;add 9 1;", question, 0, 1);
        asked(47, moves, "cleared without entries", "table 8 2 1;row 1 1 2;add 9 1;remove 1;remove 2;remove 9;clear;", question, 0, 0);
        asked(47, moves, "removed entries do not take them back", "table 8 2 1;row 1 1 2;add 9 1;remove 9;", question, 0, 1);
        asked(47, moves, "building it anew with the same neighbourhood", "table 8 2 1;row 1 1 2;add 9 1;near 2;", question, 0, 0);
        asked(47, moves, "building it anew with the same multiplier", "table 8 2 1;row 1 1 2;add 9 1;times 1;", question, 0, 0);
        asked(47, moves, "a search in vain does not count", "table 8 2 1;row 0 8 2;row 2 1 2;add 16 1;", question, 0, 0);
        asked(47, moves, "pulled entries do not count", "table 8 3 1;row 1 8 2;pull;remove 1;", question, 0, 0);
        Boundary.test(47, moves, "a refused change leaves them", () -> {
            NeighbourHash x = Boundary.after("table 64 2 1;row 1 1 2;add 65 1;");
            Boundary.refused(x::grow);
            Boundary.refused(() -> x.add(129, 1));
            Boundary.due(x.moves(), 1);
        });
    }

    private static void pullsAndGrowths() {
        Question pulls = (x, none) -> x.pulls();
        String pulled = "Returns the number of entries that were pulled.";
        asked(48, pulled, "none", "table 8 3 1;row 1 8 2;remove 1;", pulls, 0, 0);
        asked(48, pulled, "of two removed ones", "table 8 3 1;row 1 8 2;row 5 8 2;pull;remove 1;remove 5;", pulls, 0, 2);
        asked(48, pulled, "clear pulls nothing", "table 8 3 1;row 1 8 3;pull;clear;", pulls, 0, 0);
        asked(48, pulled, "clear and building leave them", "table 8 3 1;row 1 8 2;pull;remove 1;clear;grow;near 4;times 2;", pulls, 0, 1);
        asked(48, pulled, "displaced entries do not count", "table 8 2 1;pull;row 1 1 2;add 9 1;", pulls, 0, 0);
        Question growths = (x, none) -> x.growths();
        String doubled = "Returns how often the number of buckets was doubled; when it becomes four times as great at once, this counts twice.";
        asked(49, doubled, "never, in a table of 64", "table 64 3 1;add 1 1;near 2;times 9;clear;", growths, 0, 0);
        asked(49, doubled, "by grow", "table 8 3 1;grow;grow;grow;", growths, 0, 3);
        asked(49, doubled, "by add, four times", "table 8 2 1;row 1 16 2;add 33 1;", growths, 0, 2);
        asked(49, doubled, "by put, eight times", "table 8 2 1;row 1 32 2;put 65 1;", growths, 0, 3);
        asked(49, doubled, "by row", "table 8 2 1;row 1 8 4;", growths, 0, 1);
        asked(49, doubled, "by row, four times", "table 8 2 1;row 1 16 3;", growths, 0, 2);
        asked(49, doubled, "by near, four times", "table 8 3 1;row 1 16 3;near 2;", growths, 0, 2);
        asked(49, doubled, "by times, four times", "table 8 2 1;row 1 1 3;times 16;", growths, 0, 2);
        asked(49, doubled, "clear leaves them", "table 8 3 1;grow;clear;", growths, 0, 1);
        Boundary.test(49, doubled, "a refused change leaves them", () -> {
            NeighbourHash x = Boundary.after(Boundary.STUCK);
            Boundary.refused(() -> x.add(1999, 1));
            Boundary.due(x.growths(), 0);
        });
    }

    private static void accounts() {
        Question added = (x, none) -> x.addedCount();
        String entries = "Returns the number of entries that were added.";
        asked(50, entries, "none", EMPTY, added, 0, 0);
        asked(50, entries, "put of a key that there is adds none", "table 8 3 1;add 1 1;put 1 2;", added, 0, 1);
        asked(50, entries, "row adds those that there were not", "table 8 3 1;add 2 1;row 1 1 3;", added, 0, 3);
        asked(50, entries, "built anew, it is not added again", "table 8 3 1;row 1 8 3;grow;near 4;times 3;", added, 0, 3);
        asked(50, entries, "displaced and grown for", "table 8 2 1;row 1 16 3;", added, 0, 3);
        asked(50, entries, "removed and added again", "table 8 3 1;add 1 1;remove 1;add 1 1;clear;put 1 1;", added, 0, 3);
        Boundary.test(50, entries, "refused ones do not count", () -> {
            NeighbourHash x = Boundary.after(Boundary.STUCK);
            Boundary.refused(() -> x.addRow(1998, 1, 2));
            Boundary.refused(() -> x.add(5, 1));
            Boundary.due(x.addedCount(), 2);
        });
        Question removed = (x, none) -> x.removedCount();
        String gone = "Returns the number of entries that were removed, also by clear().";
        asked(51, gone, "none", "table 8 3 1;add 1 1;", removed, 0, 0);
        asked(51, gone, "by clear, without entries", "table 8 3 1;clear;clear;", removed, 0, 0);
        asked(51, gone, "by clear", "table 8 3 1;row 1 1 3;clear;", removed, 0, 3);
        asked(51, gone, "by remove and by clear", "table 8 3 1;row 1 1 3;remove 2;clear;", removed, 0, 3);
        asked(51, gone, "pulled, displaced and built anew, it is not removed", "table 8 3 1;row 1 8 3;pull;remove 1;grow;near 2;", removed, 0, 1);
        Boundary.test(51, gone, "refused ones do not count", () -> {
            NeighbourHash x = new NeighbourHash();
            Boundary.missing(() -> x.remove(9));
            Boundary.due(x.removedCount(), 1);
        });
    }

    private static void ratios() {
        String mean = "Returns sumOfDistances() divided by the number of entries, both converted to double; 0.0 without entries.";
        Boundary.test(52, mean, "without entries", () -> {
            Boundary.due(Boundary.after(EMPTY).meanDistance(), 0.0);
            Boundary.due(Boundary.after("table 8 3 1;add 1 1;clear;").meanDistance(), 0.0);
        });
        Boundary.test(52, mean, "all in their homes", () -> Boundary.due(Boundary.after(Boundary.FULL_8).meanDistance(), 0.0));
        Boundary.test(52, mean, "less than 1 and not rounded", () -> {
            Boundary.due(Boundary.after("table 8 3 1;row 1 8 2;").meanDistance(), 0.5);
            Boundary.due(Boundary.after("table 8 3 1;row 1 8 2;add 5 1;").meanDistance(), 1.0 / 3.0);
            Boundary.due(Boundary.after("table 8 6 1;row 3 8 6;add 1 1;").meanDistance(), 15.0 / 7.0);
        });
        Boundary.test(52, mean, "the greatest", () -> Boundary.due(
            Boundary.after("table 8 6 1;row 3 8 6;remove 3;remove 11;remove 19;remove 27;remove 35;").meanDistance(), 5.0));
        String load = "Returns the number of entries divided by the number of buckets, both converted to float.";
        Boundary.test(53, load, "without entries", () -> Boundary.due(Boundary.after(EMPTY).load(), 0.0f));
        Boundary.test(53, load, "full", () -> {
            Boundary.due(Boundary.after(Boundary.FULL_8).load(), 1.0f);
            Boundary.due(Boundary.after(Boundary.FULL_64).load(), 1.0f);
        });
        Boundary.test(53, load, "one entry", () -> {
            for (int n : Boundary.SIZES) {
                Boundary.due(Boundary.after("table " + n + " 3 1;add 1 1;").load(), 1.0f / n);
            }
        });
    }

    private static void violations() {
        violations("Returns the number of violations: entries whose distance from their home is H or more",
            EMPTY, Boundary.ROUND, "table 8 6 1;row 3 8 6;", "table 8 6 1;row 3 8 6;near 3;", "table 8 3 1;row 1 16 3;near 2;",
            "table 8 2 1;row 1 1 3;times 16;", "table 8 2 1;row 1 1 5;add 9 1;");
        violations("hop bits that do not tell what lies in their bucket", Boundary.FULL_8, Boundary.FULL_64, "table 8 2 1;row 1 1 5;add 9 1;",
            "table 8 3 1;row 1 8 3;pull;remove 1;", "table 8 3 1;row 1 1 5;clear;", "table 8 6 1;row 3 8 6;remove 3;", "table 8 3 1;row 1 1 9;grow;");
        violations("pairs of entries with the same key", "table 8 3 1;add 1 1;put 1 2;put 2 2;row 1 1 9;", "table 8 3 1;row 1 8 3;put 17 1;row 1 8 3;",
            "table 8 2 1;row 1 1 5;add 9 1;put 5 1;row 2 1 4;");
        String none = "and the difference, without its sign, of addedCount() and removedCount() plus the number of entries; it is always 0.";
        violations(none, EMPTY, "table 8 3 1;add 1 1;", Boundary.STUCK, "table 8 3 1;row 1 1 5;clear;add 1 1;", "table 8 3 1;row 1 1 5;remove 3;put 3 1;put 3 2;clear;",
            "table 8 3 1;row 1 8 9;grow;near 4;times 5;");
        Boundary.test(54, none, "after undo, a snapshot and refused changes", () -> {
            NeighbourHash x = new NeighbourHash();
            Boundary.due(x.violations(), 0);
            x.saveSnapshot();
            x.add(9, 1);
            x.undo();
            Boundary.due(x.violations(), 0);
            Boundary.run(x, Boundary.STUCK);
            Boundary.refused(() -> x.add(1999, 1));
            Boundary.due(x.violations(), 0);
            x.restoreSnapshot();
            Boundary.due(x.violations(), 0);
        });
    }

    private static void violations(String sentence, String... scripts) {
        for (String script : scripts) {
            Boundary.test(54, sentence, script, () -> Boundary.due(Boundary.after(script).violations(), 0));
        }
    }

    // ---- the report

    private static void report(String sentence, String what, String script, String report) {
        Boundary.test(55, sentence, what, () -> {
            NeighbourHash x = Boundary.after(script);
            Boundary.due(x.writeTable(), report.length());
            Boundary.due(Boundary.report(x), report);
            Boundary.due(x.reportByte(report.length()), Boundary.NONE);
        });
    }

    private static void writeTable() {
        String writes = "Returns the length in bytes of the report that is written, in place of the previous report: for each bucket, separated by spaces,"
            + " its key, or a full stop if it is free; for an entry that does not lie in its home, a plus sign and its distance follow.";
        report(writes, "without entries", EMPTY, ". . . . . . . .");
        report(writes, "the keys 0 and 9999", ENDS, "0 . . . . 9999 . .");
        report(writes, "keys of 1, 2, 3 and 4 digits with noughts", "table 8 3 1;add 10 1;add 100 1;add 1000 1;add 0 1;", "0 . 10 1000 100 . . .");
        report(writes, "the distances 1 to 5", "table 8 6 1;row 0 8 6;", "0 8+1 16+2 24+3 32+4 40+5 . .");
        report(writes, "over the end", Boundary.ROUND, "15+1 23+2 . . . . . 7");
        report(writes, "a full table", Boundary.FULL_8, "0 1 2 3 4 5 6 7");
        report(writes, "64 free buckets", "table 64 3 1;", ". ".repeat(63) + ".");
        report(writes, "the longest one", "table 64 2 1;add 1994 1;row 4985 1 20;row 5005 1 20;row 5025 1 20;row 5045 1 3;remove 1994;add 5048 1;", longest());
        Boundary.test(55, writes, "in place of a longer one", () -> {
            NeighbourHash x = new NeighbourHash();
            Boundary.due(x.writeTable(), 21);
            x.clear();
            Boundary.due(x.writeTable(), 15);
            Boundary.due(x.reportByte(14) + " " + x.reportByte(15) + " " + x.reportByte(20), "46 -1 -1");
        });
        Boundary.test(55, writes, "in place of a shorter one", () -> {
            NeighbourHash x = Boundary.after(EMPTY);
            x.writeTable();
            x.grow();
            Boundary.due(x.writeTable() + " " + x.reportByte(30) + " " + x.reportByte(31), "31 46 -1");
        });
        Boundary.test(55, writes, "it changes nothing else", () -> {
            NeighbourHash x = new NeighbourHash();
            x.writeTable();
            Boundary.due(Boundary.state(x) + " " + x.undoCount(), Boundary.NEW_STATE + " 0");
        });
    }

    /** Keys of four digits in all 64 buckets, each one behind its home: 447 bytes. 4985 is 0 modulo 997. */
    private static String longest() {
        StringBuilder text = new StringBuilder("5048+1");
        for (int i = 0; i < 63; i++) {
            text.append(' ').append(4985 + i).append("+1");
        }
        return text.toString();
    }

    private static void reportByte() {
        String returns = "Returns the byte, or NONE if the report has no such byte or nothing was written.";
        Boundary.test(56, "Returns a byte of the report.", "each of \". 1 17+1 3 4 12+1 . .\"", () -> {
            NeighbourHash x = new NeighbourHash();
            x.writeTable();
            String text = ". 1 17+1 3 4 12+1 . .";
            for (int i = 0; i < text.length(); i++) {
                Boundary.due(x.reportByte(i), (int) text.charAt(i));
            }
        });
        Boundary.test(56, "Returns a byte of the report.", "as it was written, not as the table is", () -> {
            NeighbourHash x = new NeighbourHash();
            x.writeTable();
            x.clear();
            Boundary.due(x.reportByte(2), 49);
            Boundary.run(x, EMPTY);
            Boundary.due(x.reportByte(2), 49);
        });
        Boundary.test(56, "- `index`: the index of the byte, from 0", "0 and the last", () -> {
            NeighbourHash x = new NeighbourHash();
            x.grow();
            x.writeTable();
            Boundary.due(x.reportByte(0) + " " + x.reportByte(2), "46 49");
            Boundary.run(x, ENDS);
            x.writeTable();
            Boundary.due(x.reportByte(0) + " " + x.reportByte(17) + " " + x.reportByte(18), "48 46 -1");
        });
        Boundary.test(56, returns, "nothing was written", () -> {
            NeighbourHash x = new NeighbourHash();
            for (int index : new int[] {Boundary.LEAST, -1, 0, 1, 447, 600, Boundary.GREATEST}) {
                Boundary.due(x.reportByte(index), Boundary.NONE);
            }
        });
        Boundary.test(56, returns, "no such byte", () -> {
            NeighbourHash x = new NeighbourHash();
            x.writeTable();
            for (int index : new int[] {Boundary.LEAST, -21, -1, 21, 22, 447, 448, 600, Boundary.GREATEST}) {
                Boundary.due(x.reportByte(index), Boundary.NONE);
            }
        });
        Boundary.test(56, returns, "nothing was written, but a script was run and all was undone", () -> {
            NeighbourHash x = Boundary.after(EMPTY);
            x.undo();
            Boundary.due(x.reportByte(0), Boundary.NONE);
        });
        Boundary.test(56, "`NONE = -1`: Returned if there is no such value.", "its number", () -> Boundary.due(NeighbourHash.NONE, -1));
    }
}
