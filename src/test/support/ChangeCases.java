/** Boundary cases of the promises 1 to 17, each under its own sentence. */
final class ChangeCases {
    private static final String KEYS = "- `key`: a key, 0 to 9999";
    private static final String VALUES = "- `value`: a value, 0 to 999";
    private static final String KEY_OR_VALUE = "Throws `IllegalArgumentException` if `key` or `value` is out of range";
    private static final String CANNOT_BE_ADDED = "Throws `IllegalStateException` if an entry cannot be added because there would be more than 64 buckets";
    private static final String BUCKETS_AFTERWARDS = "Returns the number of buckets afterwards.";
    private static final String BUILDING_FAILS = "Throws `IllegalStateException` if building it anew fails";
    private static final String ENTRIES = "Returns the number of entries.";
    private static final int[] WRONG_KEYS = {Boundary.LEAST, -10000, -997, -1, 10000, 10996, 65536, Boundary.GREATEST};
    private static final int[] WRONG_VALUES = {Boundary.LEAST, -1000, -1, 1000, 1001, 65536, Boundary.GREATEST};

    private ChangeCases() {
    }

    static void list() {
        newObject();
        append();
        truncateInput();
        runScript();
        add();
        put();
        addRow();
        rowOutOfRange();
        remove();
        setNeighbourhood();
        setMultiplier();
        setPulling();
        grow();
        clear();
        undo();
        saveSnapshot();
        restoreSnapshot();
    }

    private static void newObject() {
        Boundary.test(1, "Creates a table as by the script \"table 8 3 1; add 1 10; add 9 11; add 3 12; add 17 13; add 4 14; pull; remove 9; add 12 15;\".",
            "everything", () -> Boundary.due(Boundary.state(new NeighbourHash()), Boundary.NEW_STATE));
        Boundary.test(1, "Creates a table as by the script \"table 8 3 1; add 1 10; add 9 11; add 3 12; add 17 13; add 4 14; pull; remove 9; add 12 15;\".",
            "as the script itself", () -> {
                NeighbourHash x = Boundary.after("table 8 3 1; add 1 10; add 9 11; add 3 12; add 17 13; add 4 14; pull; remove 9; add 12 15;");
                Boundary.due(Boundary.state(x), Boundary.state(new NeighbourHash()));
            });
        String empty = "The input buffer and the report are empty, no snapshot is saved, and nothing can be undone.";
        Boundary.test(1, empty, "the input buffer", () -> {
            NeighbourHash x = new NeighbourHash();
            Boundary.illegal(() -> x.truncateInput(1));
            Boundary.due(x.truncateInput(0) + " " + x.append(0, 0, 0, 0, 0), "0 20");
        });
        Boundary.test(1, empty, "the report", () -> {
            NeighbourHash x = new NeighbourHash();
            Boundary.due(x.reportByte(0) + " " + x.reportByte(1), "-1 -1");
        });
        Boundary.test(1, empty, "the snapshot", () -> Boundary.missing(new NeighbourHash()::restoreSnapshot));
        Boundary.test(1, empty, "undo", () -> {
            NeighbourHash x = new NeighbourHash();
            Boundary.due(x.undoCount() + " " + x.undo(), "0 -1");
            Boundary.due(Boundary.state(x), Boundary.NEW_STATE);
        });
        Boundary.test(1, empty, "an object does not know of another one", () -> {
            NeighbourHash x = new NeighbourHash();
            x.append(0, 0, 0, 0, 0);
            x.writeTable();
            x.saveSnapshot();
            x.clear();
            NeighbourHash y = new NeighbourHash();
            Boundary.due(Boundary.state(y), Boundary.NEW_STATE);
            Boundary.due(Boundary.inputLength(y) + " " + y.reportByte(0) + " " + y.undoCount(), "0 -1 0");
            Boundary.missing(y::restoreSnapshot);
        });
    }

    /** The bytes of the text, as numbers: what was appended is only seen when it is run. */
    private static int word(String four) {
        return four.charAt(0) << 24 | four.charAt(1) << 16 | four.charAt(2) << 8 | four.charAt(3);
    }

    private static void append() {
        String most = "Appends 20 bytes to the input buffer: the four bytes of each parameter, the most significant byte first.";
        Boundary.test(2, most, "each byte in its place", () -> {
            NeighbourHash x = new NeighbourHash();
            x.append(word("tabl"), word("e 8 "), word("3 1;"), word("add "), word("5 6;"));
            Boundary.due(x.runScript() + " " + x.valueOf(5), "1 6");
        });
        String[] params = {"- `a`: bytes 0 to 3", "- `b`: bytes 4 to 7", "- `c`: bytes 8 to 11", "- `d`: bytes 12 to 15", "- `e`: bytes 16 to 19"};
        for (int p = 0; p < 5; p++) {
            for (int b = 0; b < 4; b++) {
                int place = 4 * p + b;
                // A wrong byte among blanks is an error at its offset.
                Boundary.test(2, params[p], "the byte " + place + " alone", () -> {
                    // 160 and 138 are a blank and a line feed but for the highest bit.
                    for (int sign : new int[] {160, 138, 255, 127, 0, 1}) {
                        int[] w = {0x20202020, 0x20202020, 0x20202020, 0x20202020, 0x20202020};
                        int shift = 24 - 8 * (place % 4);
                        w[place / 4] = w[place / 4] & ~(255 << shift) | sign << shift;
                        NeighbourHash x = new NeighbourHash();
                        x.append(w[0], w[1], w[2], w[3], w[4]);
                        Boundary.due(x.runScript() + " " + x.scriptErrorKind() + " " + x.scriptErrorOffset(), "-1 1 " + place);
                    }
                });
            }
        }
        String length = "Returns the new length of the buffer, or NONE (and nothing is appended) if it would be greater than 600.";
        Boundary.test(2, length, "20 to 600", () -> {
            NeighbourHash x = new NeighbourHash();
            for (int i = 1; i <= 30; i++) {
                Boundary.due(x.append(i, 0, 0, 0, 0), 20 * i);
            }
        });
        for (int before = 575; before <= 600; before++) {
            int full = before;
            Boundary.test(2, length, "to a buffer of " + full, () -> {
                NeighbourHash x = new NeighbourHash();
                for (int i = 1; i <= 30; i++) {
                    x.append(0, 0, 0, 0, 0);
                }
                x.truncateInput(full);
                boolean fits = full <= 580;
                Boundary.due(x.append(-1, -1, -1, -1, -1), fits ? full + 20 : Boundary.NONE);
                Boundary.due(Boundary.inputLength(x), fits ? full + 20 : full);
            });
        }
        Boundary.test(2, length, "nothing is appended to a full buffer, nor put in place of anything", () -> {
            NeighbourHash x = new NeighbourHash();
            Boundary.feed(x, "table 8 3 1;" + " ".repeat(580) + "add 5 6;");
            Boundary.due(x.append(-1, -1, -1, -1, -1), Boundary.NONE);
            Boundary.due(x.runScript() + " " + x.valueOf(5), "1 6");
        });
    }

    private static void truncateInput() {
        String shortens = "Shortens the input buffer.";
        Boundary.test(3, shortens, "the bytes at the end are gone", () -> {
            NeighbourHash x = new NeighbourHash();
            Boundary.feed(x, "table 8 3 1;foo");
            x.truncateInput(12);
            Boundary.due(x.runScript(), 0);
        });
        Boundary.test(3, shortens, "what is appended afterwards comes at the new end", () -> {
            NeighbourHash x = new NeighbourHash();
            Boundary.feed(x, "table 8 3 1;foofoofoofoofoo");
            x.truncateInput(12);
            x.append(word("add "), word("5 6;"), 0x20202020, 0x20202020, 0x20202020);
            Boundary.due(x.runScript() + " " + x.valueOf(5), "1 6");
        });
        Boundary.test(3, "- `length`: the new length", "the present length changes nothing", () -> {
            NeighbourHash x = new NeighbourHash();
            Boundary.feed(x, "table 8 3 1;");
            Boundary.due(x.truncateInput(12) + " " + x.runScript(), "12 0");
        });
        Boundary.test(3, "Returns the new length.", "20, 19, 1, 0 and 0 again", () -> {
            NeighbourHash x = new NeighbourHash();
            x.append(0, 0, 0, 0, 0);
            Boundary.due(x.truncateInput(20) + " " + x.truncateInput(19) + " " + x.truncateInput(1) + " " + x.truncateInput(0) + " " + x.truncateInput(0),
                "20 19 1 0 0");
        });
        String wrong = "Throws `IllegalArgumentException` if `length` is negative or greater than the present length";
        Boundary.test(3, wrong, "negative", () -> {
            NeighbourHash x = new NeighbourHash();
            x.append(0, 0, 0, 0, 0);
            Boundary.illegal(() -> x.truncateInput(-1));
            Boundary.illegal(() -> x.truncateInput(Boundary.LEAST));
            Boundary.due(Boundary.inputLength(x), 20);
        });
        Boundary.test(3, wrong, "greater", () -> {
            NeighbourHash x = new NeighbourHash();
            Boundary.illegal(() -> x.truncateInput(1));
            x.append(0, 0, 0, 0, 0);
            Boundary.illegal(() -> x.truncateInput(21));
            Boundary.illegal(() -> x.truncateInput(600));
            Boundary.illegal(() -> x.truncateInput(Boundary.GREATEST));
            x.truncateInput(7);
            Boundary.illegal(() -> x.truncateInput(8));
            Boundary.due(x.truncateInput(7), 7);
        });
        Boundary.test(3, wrong, "greater than 600", () -> {
            NeighbourHash x = new NeighbourHash();
            for (int i = 1; i <= 30; i++) {
                x.append(0, 0, 0, 0, 0);
            }
            Boundary.illegal(() -> x.truncateInput(601));
            Boundary.due(x.truncateInput(600), 600);
        });
    }

    private static void runScript() {
        Boundary.test(4, "Executes the input buffer as a script.", "an empty one", () -> {
            NeighbourHash x = new NeighbourHash();
            Boundary.due(x.runScript() + " " + x.scriptErrorKind() + " " + x.scriptErrorOffset(), "-1 1 0");
        });
        Boundary.test(4, "Executes the input buffer as a script.", "no more than it holds", () -> {
            NeighbourHash x = new NeighbourHash();
            Boundary.feed(x, "table 8 3 1;add 1 1;add 2 2;");
            x.truncateInput(20);
            Boundary.due(x.runScript() + " " + Boundary.places(x), "1 1:1");
        });
        String replaces = "A script without an error replaces everything: the table is empty and all counters are 0 before its first command.";
        Boundary.test(4, replaces, "no command", () ->
            Boundary.due(Boundary.state(Boundary.after("table 16 4 5;")), "16 4 5 false; 0 entries; hops 0 0 0 0 0 0 0 0 0 0 0 0 0 0 0 0; 0 0 0 0 0"));
        Boundary.test(4, replaces, "after a script with moves, pulls, growths, added and removed ones", () -> {
            NeighbourHash x = Boundary.after("table 8 2 1;grow;row 1 1 3;add 17 1;pull;remove 1;");
            Boundary.due(Boundary.counters(x), "2 3 1 4 1");
            Boundary.run(x, "table 8 3 1;add 5 5;");
            Boundary.due(Boundary.state(x), "8 3 1 false; 1 entries 5:5=5; hops 0 0 0 0 0 1 0 0; 0 0 0 1 0");
        });
        String emptied = "The input buffer is empty afterwards in every case.";
        Boundary.test(4, emptied, "without an error", () -> Boundary.due(Boundary.inputLength(Boundary.after("table 8 3 1;")), 0));
        String[] wrong = {"foo", "table 9 3 1;", "table 8 3 1;add 1 1;add 1 1;", "table 8 3 1;repeat 1(repeat 1(repeat 1();););",
            "table 8 3 1;repeat 20(repeat 20(pull;););", "?", ""};
        for (String script : wrong) {
            Boundary.test(4, emptied, "with the error of \"" + script + "\"", () -> {
                NeighbourHash x = new NeighbourHash();
                Boundary.run(x, script);
                Boundary.due(Boundary.inputLength(x), 0);
                Boundary.due(Boundary.run(x, "table 8 3 1;add 5 5;"), 1);
            });
            Boundary.test(4, "If the script has an error, only the input buffer and the script error change.", script, () -> {
                NeighbourHash x = new NeighbourHash();
                x.saveSnapshot();
                x.writeTable();
                x.remove(1);
                String before = Boundary.state(x);
                Boundary.run(x, script);
                Boundary.due(Boundary.state(x), before);
                Boundary.due(x.undoCount() + " " + x.reportByte(2) + " " + x.reportByte(20) + " " + x.reportByte(21), "1 49 46 -1");
                x.undo();
                Boundary.due(Boundary.state(x), Boundary.NEW_STATE);
                x.clear();
                x.restoreSnapshot();
                Boundary.due(Boundary.state(x), Boundary.NEW_STATE);
            });
            Boundary.test(4, "Returns the number of entries, or NONE if the script has an error.", "the error of \"" + script + "\"", () ->
                Boundary.due(Boundary.run(new NeighbourHash(), script), Boundary.NONE));
        }
        Boundary.test(4, "Returns the number of entries, or NONE if the script has an error.", "0, 1 and 64 entries", () -> {
            Boundary.due(Boundary.run(new NeighbourHash(), "table 8 3 1;"), 0);
            Boundary.due(Boundary.run(new NeighbourHash(), "table 8 3 1;add 5 5;"), 1);
            Boundary.due(Boundary.run(new NeighbourHash(), Boundary.FULL_64), 64);
        });
    }

    private static void add() {
        String adds = "Adds an entry; the table grows if there is no place for it.";
        Boundary.test(5, adds, "to a table without entries", () -> {
            NeighbourHash x = Boundary.after("table 8 3 1;");
            Boundary.due(x.add(5, 6), 5);
            Boundary.due(Boundary.state(x), "8 3 1 false; 1 entries 5:5=6; hops 0 0 0 0 0 1 0 0; 0 0 0 1 0");
        });
        Boundary.test(5, adds, "the last place of 8, and one more", () -> {
            NeighbourHash x = Boundary.after("table 8 6 1;row 0 1 7;");
            Boundary.due(x.add(7, 1) + " " + x.bucketCount(), "7 8");
            Boundary.due(x.add(8, 1) + " " + x.bucketCount(), "8 16");
        });
        Boundary.test(5, adds, "the last place of 64", () -> {
            NeighbourHash x = Boundary.after("table 64 2 1;row 0 1 20;row 20 1 20;row 40 1 20;row 60 1 3;");
            Boundary.due(x.add(63, 1) + " " + x.bucketCount() + " " + x.entryCount(), "63 64 64");
        });
        Boundary.test(5, KEYS, "0 and 9999", () -> {
            NeighbourHash x = new NeighbourHash();
            Boundary.due(x.add(0, 1) + " " + x.add(9999, 2), "0 6");
        });
        Boundary.test(5, VALUES, "0 and 999", () -> {
            NeighbourHash x = new NeighbourHash();
            x.add(0, 0);
            x.add(9999, 999);
            Boundary.due(x.valueOf(0) + " " + x.valueOf(9999), "0 999");
        });
        String returns = "Returns the bucket of the entry.";
        Boundary.test(5, returns, "over the end", () -> Boundary.due(Boundary.after("table 8 3 1;add 7 1;").add(15, 1), 0));
        Boundary.test(5, returns, "where another entry was displaced", () -> Boundary.due(new NeighbourHash().add(9, 20), 3));
        Boundary.test(5, returns, "in the table that has grown", () -> Boundary.due(Boundary.after("table 8 2 1;row 1 8 2;").add(25, 1), 10));
        Boundary.test(5, returns, "the last of 64", () -> Boundary.due(Boundary.after("table 64 2 1;").add(63, 1), 63));
        Boundary.test(5, KEY_OR_VALUE, "the key", () -> {
            NeighbourHash x = new NeighbourHash();
            for (int key : WRONG_KEYS) {
                Boundary.illegal(() -> x.add(key, 1));
            }
        });
        Boundary.test(5, KEY_OR_VALUE, "the value", () -> {
            NeighbourHash x = new NeighbourHash();
            for (int value : WRONG_VALUES) {
                Boundary.illegal(() -> x.add(5, value));
            }
        });
        Boundary.test(5, KEY_OR_VALUE, "both", () -> Boundary.illegal(() -> new NeighbourHash().add(10000, 1000)));
        String state = "Throws `IllegalStateException` if there is an entry with the key, or there would be more than 64 buckets";
        Boundary.test(5, state, "there is an entry, with the same value or another one", () -> {
            NeighbourHash x = new NeighbourHash();
            Boundary.refused(() -> x.add(1, 10));
            Boundary.refused(() -> x.add(12, 0));
        });
        Boundary.test(5, state, "there was an entry, but it was removed", () -> Boundary.due(new NeighbourHash().add(9, 1), 3));
        Boundary.test(5, state, "more than 64 buckets, from each number of buckets", () -> {
            for (int n : Boundary.SIZES) {
                NeighbourHash x = Boundary.after("table " + n + " 2 1;row 5 997 2;");
                Boundary.refused(() -> x.add(1999, 1));
                Boundary.due(x.bucketCount(), n);
            }
        });
        Boundary.test(5, state, "all 64 are full", () -> {
            NeighbourHash x = Boundary.after(Boundary.FULL_64);
            Boundary.refused(() -> x.add(64, 1));
            Boundary.refused(() -> x.add(63, 1));
        });
    }

    private static void put() {
        String replaces = "Replaces the value of the entry with a key, or adds an entry if there is none.";
        Boundary.test(6, replaces, "nothing but the value", () -> {
            NeighbourHash x = new NeighbourHash();
            x.put(17, 999);
            Boundary.due(Boundary.state(x), Boundary.NEW_STATE.replace("17=13", "17=999"));
        });
        Boundary.test(6, replaces, "in a table where no entry has a place", () -> {
            NeighbourHash x = Boundary.after(Boundary.FULL_64);
            Boundary.due(x.put(63, 5) + " " + x.valueOf(63) + " " + x.bucketCount(), "0 5 64");
        });
        Boundary.test(6, replaces, "a key that was removed is added", () -> {
            NeighbourHash x = new NeighbourHash();
            Boundary.due(x.put(9, 20) + " " + x.bucketOf(9) + " " + x.addedCount() + " " + x.moves(), "-1 3 7 3");
        });
        Boundary.test(6, KEYS, "0 and 9999", () -> {
            NeighbourHash x = new NeighbourHash();
            Boundary.due(x.put(0, 1) + " " + x.put(9999, 2) + " " + x.put(0, 3) + " " + x.put(9999, 4), "-1 -1 1 2");
        });
        Boundary.test(6, VALUES, "0 and 999", () -> {
            NeighbourHash x = new NeighbourHash();
            Boundary.due(x.put(1, 0) + " " + x.put(1, 999) + " " + x.put(1, 0), "10 0 999");
        });
        String returns = "Returns the previous value, or NONE if an entry was added.";
        Boundary.test(6, returns, "the previous value 0 is not NONE", () -> {
            NeighbourHash x = new NeighbourHash();
            Boundary.due(x.put(20, 0) + " " + x.put(20, 0) + " " + x.put(20, 1), "-1 0 0");
        });
        Boundary.test(6, returns, "added again after it was removed", () -> {
            NeighbourHash x = new NeighbourHash();
            x.remove(1);
            Boundary.due(x.put(1, 5), Boundary.NONE);
        });
        Boundary.test(6, KEY_OR_VALUE, "the key", () -> {
            NeighbourHash x = new NeighbourHash();
            for (int key : WRONG_KEYS) {
                Boundary.illegal(() -> x.put(key, 1));
            }
        });
        Boundary.test(6, KEY_OR_VALUE, "the value, of a new key and of one that there is", () -> {
            NeighbourHash x = new NeighbourHash();
            for (int value : WRONG_VALUES) {
                Boundary.illegal(() -> x.put(5, value));
                Boundary.illegal(() -> x.put(1, value));
            }
        });
        Boundary.test(6, CANNOT_BE_ADDED, "from each number of buckets", () -> {
            for (int n : Boundary.SIZES) {
                NeighbourHash x = Boundary.after("table " + n + " 2 1;row 5 997 2;");
                Boundary.refused(() -> x.put(1999, 1));
                Boundary.due(x.put(1002, 1), 0);
                Boundary.due(x.bucketCount(), n);
            }
        });
        Boundary.test(6, CANNOT_BE_ADDED, "all 64 are full", () -> Boundary.refused(() -> Boundary.after(Boundary.FULL_64).put(64, 1)));
    }

    private static void addRow() {
        String adds = "Adds entries with the keys key, key plus step, key plus twice the step and so on, with the value 0, one after the other;"
            + " those with a key that there is already are passed over.";
        Boundary.test(7, adds, "one key", () -> {
            NeighbourHash x = Boundary.after("table 8 3 1;");
            Boundary.due(x.addRow(5, 999, 1), 1);
            Boundary.due(Boundary.state(x), "8 3 1 false; 1 entries 5:5=0; hops 0 0 0 0 0 1 0 0; 0 0 0 1 0");
        });
        Boundary.test(7, adds, "20 keys", () -> {
            NeighbourHash x = Boundary.after("table 64 3 1;");
            Boundary.due(x.addRow(3, 2, 20) + " " + x.keyAt(3) + " " + x.keyAt(41) + " " + x.keyAt(43), "20 3 41 -1");
        });
        Boundary.test(7, adds, "one after the other: the second lies behind the first", () -> {
            NeighbourHash x = Boundary.after("table 8 3 1;");
            x.addRow(1, 8, 3);
            Boundary.due(Boundary.places(x), "1:1 2:9 3:17");
        });
        Boundary.test(7, adds, "the first, one in the middle and the last are there, and keep their values", () -> {
            NeighbourHash x = Boundary.after("table 16 3 1;add 1 11;add 3 13;add 5 15;");
            Boundary.due(x.addRow(1, 1, 5), 2);
            Boundary.due(x.valueOf(1) + " " + x.valueOf(2) + " " + x.valueOf(3) + " " + x.valueOf(4) + " " + x.valueOf(5), "11 0 13 0 15");
        });
        Boundary.test(7, adds, "keys that there are need no place", () -> {
            NeighbourHash x = Boundary.after(Boundary.FULL_64);
            Boundary.due(x.addRow(44, 1, 20) + " " + x.bucketCount(), "0 64");
        });
        String first = "- `key`: the first key, 0 to 9999";
        Boundary.test(7, first, "0 and 9999", () -> {
            NeighbourHash x = new NeighbourHash();
            Boundary.due(x.addRow(0, 1, 1) + " " + x.addRow(9999, 1, 1) + " " + x.bucketOf(0) + " " + x.bucketOf(9999), "1 1 0 6");
        });
        String steps = "- `step`: 1 to 999";
        Boundary.test(7, steps, "1 and 999", () -> {
            NeighbourHash x = Boundary.after("table 64 3 1;");
            Boundary.due(x.addRow(20, 1, 2) + " " + x.addRow(0, 999, 11), "2 11");
            Boundary.due(x.valueOf(21) + " " + x.valueOf(9990), "0 0");
        });
        String counts = "- `count`: the number of keys, 1 to 20";
        Boundary.test(7, counts, "1 and 20", () -> {
            NeighbourHash x = Boundary.after("table 64 3 1;");
            Boundary.due(x.addRow(0, 1, 1) + " " + x.entryCount() + " " + x.addRow(20, 1, 20) + " " + x.entryCount(), "1 1 20 21");
        });
        String returns = "Returns the number of entries that are added.";
        Boundary.test(7, returns, "all, some and none", () -> {
            NeighbourHash x = Boundary.after("table 64 3 1;");
            Boundary.due(x.addRow(1, 2, 5) + " " + x.addRow(1, 1, 9) + " " + x.addRow(1, 1, 9), "5 4 0");
        });
        Boundary.test(7, CANNOT_BE_ADDED, "the only one, the first and the last of the row", () -> {
            for (int n : Boundary.SIZES) {
                NeighbourHash x = Boundary.after("table " + n + " 2 1;row 5 997 2;");
                Boundary.refused(() -> x.addRow(1999, 1, 1));
                Boundary.refused(() -> x.addRow(1999, 1, 2));
                Boundary.refused(() -> x.addRow(1998, 1, 2));
                Boundary.refused(() -> x.addRow(5, 997, 3));
                Boundary.due(x.addRow(5, 997, 2), 0);
                Boundary.due(Boundary.places(x) + " " + x.bucketCount(), "5:5 6:1002 " + n);
            }
        });
        Boundary.test(7, CANNOT_BE_ADDED, "all 64 are full", () -> Boundary.refused(() -> Boundary.after(Boundary.FULL_64).addRow(60, 1, 5)));
    }

    private static void rowOutOfRange() {
        String wrong = "Throws `IllegalArgumentException` if a parameter is out of range or the last key is greater than 9999";
        Boundary.test(7, wrong, "the key", () -> {
            NeighbourHash x = new NeighbourHash();
            for (int key : WRONG_KEYS) {
                Boundary.illegal(() -> x.addRow(key, 1, 1));
            }
            Boundary.illegal(() -> x.addRow(-1, 1, 2));
        });
        Boundary.test(7, wrong, "the step, also with one key only", () -> {
            NeighbourHash x = new NeighbourHash();
            for (int step : new int[] {Boundary.LEAST, -1, 0, 1000, Boundary.GREATEST}) {
                Boundary.illegal(() -> x.addRow(20, step, 1));
                Boundary.illegal(() -> x.addRow(20, step, 2));
            }
        });
        Boundary.test(7, wrong, "the count", () -> {
            NeighbourHash x = new NeighbourHash();
            for (int count : new int[] {Boundary.LEAST, -1, 0, 21, Boundary.GREATEST}) {
                Boundary.illegal(() -> x.addRow(20, 1, count));
            }
        });
        Boundary.test(7, wrong, "the last key is 10000", () -> {
            NeighbourHash x = new NeighbourHash();
            Boundary.illegal(() -> x.addRow(9999, 1, 2));
            Boundary.illegal(() -> x.addRow(9981, 1, 20));
            Boundary.illegal(() -> x.addRow(9001, 999, 2));
            Boundary.illegal(() -> x.addRow(9000, 500, 3));
            Boundary.illegal(() -> x.addRow(9999, 999, 20));
            Boundary.due(Boundary.state(x), Boundary.NEW_STATE);
        });
        Boundary.test(7, wrong, "the last key is 9999", () -> {
            Boundary.due(new NeighbourHash().addRow(9999, 999, 1), 1);
            Boundary.due(new NeighbourHash().addRow(9980, 1, 20), 20);
            Boundary.due(new NeighbourHash().addRow(9000, 999, 2), 2);
            Boundary.due(new NeighbourHash().addRow(9001, 499, 3), 3);
        });
        Boundary.test(7, wrong, "sums and products that are greater than an int", () -> {
            NeighbourHash x = new NeighbourHash();
            Boundary.illegal(() -> x.addRow(Boundary.GREATEST, 1, 2));
            Boundary.illegal(() -> x.addRow(20, 1 << 30, 5));
            Boundary.illegal(() -> x.addRow(20, Boundary.GREATEST, 3));
            Boundary.illegal(() -> x.addRow(20, 256, (1 << 24) + 1));
        });
    }

    private static void remove() {
        String removes = "Removes the entry with a key.";
        Boundary.test(8, removes, "the only one", () -> {
            NeighbourHash x = Boundary.after("table 8 3 1;add 5 6;");
            Boundary.due(x.remove(5), 6);
            Boundary.due(Boundary.state(x), "8 3 1 false; 0 entries; hops 0 0 0 0 0 0 0 0; 0 0 0 1 1");
        });
        Boundary.test(8, removes, "one of a full table", () -> {
            NeighbourHash x = Boundary.after(Boundary.FULL_64);
            Boundary.due(x.remove(63) + " " + x.entryCount() + " " + x.keyAt(63) + " " + x.add(63, 1), "0 63 -1 63");
        });
        Boundary.test(8, KEYS, "0 and 9999", () -> {
            NeighbourHash x = Boundary.after("table 8 3 1;add 0 1;add 9999 2;");
            Boundary.due(x.remove(0) + " " + x.remove(9999) + " " + x.entryCount(), "1 2 0");
        });
        Boundary.test(8, "Returns its value.", "0 and 999", () -> {
            NeighbourHash x = Boundary.after("table 8 3 1;add 1 0;add 2 999;");
            Boundary.due(x.remove(1) + " " + x.remove(2), "0 999");
        });
        Boundary.test(8, "Returns its value.", "not that of the entry that is pulled into its bucket", () ->
            Boundary.due(Boundary.after("table 8 3 1;add 1 11;add 9 19;pull;").remove(1), 11));
        String wrong = "Throws `NoSuchElementException` if there is no such entry";
        Boundary.test(8, wrong, "out of range", () -> {
            NeighbourHash x = new NeighbourHash();
            for (int key : WRONG_KEYS) {
                Boundary.missing(() -> x.remove(key));
            }
        });
        Boundary.test(8, wrong, "no entry at all, removed before, only another one of its home", () -> {
            NeighbourHash x = Boundary.after("table 8 3 1;");
            Boundary.missing(() -> x.remove(1));
            x.add(1, 1);
            Boundary.missing(() -> x.remove(9));
            Boundary.missing(() -> x.remove(0));
            x.remove(1);
            Boundary.missing(() -> x.remove(1));
        });
    }

    private static void setNeighbourhood() {
        String sets = "Sets the neighbourhood and builds the table anew with as many buckets as it has.";
        Boundary.test(9, sets, "also with the neighbourhood that it has", () -> {
            NeighbourHash x = Boundary.after("table 8 3 1;add 7 1;add 15 2;");
            x.setNeighbourhood(3);
            Boundary.due(Boundary.places(x), "0:7 7:15");
        });
        Boundary.test(9, sets, "without entries", () -> {
            NeighbourHash x = Boundary.after("table 32 3 1;");
            Boundary.due(x.setNeighbourhood(6) + " " + x.neighbourhood() + " " + x.growths(), "32 6 0");
        });
        Boundary.test(9, sets, "a full table", () -> {
            NeighbourHash x = Boundary.after(Boundary.FULL_64);
            Boundary.due(x.setNeighbourhood(6) + " " + x.setNeighbourhood(2) + " " + x.entryCount(), "64 64 64");
        });
        Boundary.test(9, sets, "pulling and the counters but the moves stay", () -> {
            NeighbourHash x = new NeighbourHash();
            x.setNeighbourhood(6);
            Boundary.due(Boundary.settings(x) + " " + Boundary.counters(x), "8 6 1 true 0 3 0 6 1");
        });
        Boundary.test(9, "- `near`: the new H, 2 to 6", "2 to 6", () -> {
            NeighbourHash x = new NeighbourHash();
            for (int near = 2; near <= 6; near++) {
                Boundary.due(x.setNeighbourhood(near) + " " + x.neighbourhood(), "8 " + near);
            }
        });
        Boundary.test(9, BUCKETS_AFTERWARDS, "as many as before, twice as many, 64", () -> {
            Boundary.due(Boundary.after("table 8 3 1;row 1 8 3;").setNeighbourhood(3), 8);
            Boundary.due(Boundary.after("table 8 3 1;row 1 8 3;").setNeighbourhood(2), 16);
            Boundary.due(Boundary.after("table 8 3 1;row 1 32 3;").setNeighbourhood(2), 64);
            Boundary.due(Boundary.after("table 64 3 1;").setNeighbourhood(2), 64);
        });
        Boundary.test(9, "Throws `IllegalArgumentException` if `near` is out of range", "1, 7 and others", () -> {
            NeighbourHash x = new NeighbourHash();
            for (int near : new int[] {Boundary.LEAST, -2, -1, 0, 1, 7, 8, 32, 64, Boundary.GREATEST}) {
                Boundary.illegal(() -> x.setNeighbourhood(near));
            }
            Boundary.due(x.neighbourhood(), 3);
        });
        Boundary.test(9, BUILDING_FAILS, "from each number of buckets", () -> {
            for (int n : Boundary.SIZES) {
                NeighbourHash x = Boundary.after("table " + n + " 6 1;row 5 997 6;");
                for (int near = 2; near <= 5; near++) {
                    int less = near;
                    Boundary.refused(() -> x.setNeighbourhood(less));
                }
                Boundary.due(x.setNeighbourhood(6), n);
            }
        });
    }

    private static void setMultiplier() {
        String sets = "Sets the multiplier and builds the table anew with as many buckets as it has.";
        Boundary.test(10, sets, "also with the multiplier that it has", () -> {
            NeighbourHash x = Boundary.after("table 8 3 1;add 7 1;add 15 2;");
            x.setMultiplier(1);
            Boundary.due(Boundary.places(x), "0:7 7:15");
        });
        Boundary.test(10, sets, "without entries", () -> {
            NeighbourHash x = Boundary.after("table 32 3 1;");
            Boundary.due(x.setMultiplier(99) + " " + x.multiplier() + " " + x.growths() + " " + x.homeOf(1), "32 99 0 3");
        });
        Boundary.test(10, sets, "pulling and the counters but the moves stay", () -> {
            NeighbourHash x = new NeighbourHash();
            x.setMultiplier(1);
            Boundary.due(Boundary.settings(x) + " " + Boundary.counters(x), "8 3 1 true 0 3 0 6 1");
        });
        Boundary.test(10, "- `multiplier`: 1 to 99", "1, 2, 98, 99", () -> {
            NeighbourHash x = Boundary.after("table 8 3 5;add 1 1;");
            for (int times : new int[] {1, 2, 98, 99}) {
                x.setMultiplier(times);
                Boundary.due(x.multiplier() + " " + x.bucketOf(1), times + " " + times % 8);
            }
        });
        Boundary.test(10, BUCKETS_AFTERWARDS, "as many as before, twice as many, 64", () -> {
            Boundary.due(Boundary.after("table 8 2 1;row 1 1 3;").setMultiplier(1), 8);
            Boundary.due(Boundary.after("table 8 2 1;row 1 1 3;").setMultiplier(8), 16);
            Boundary.due(Boundary.after("table 8 2 1;row 1 1 3;").setMultiplier(32), 64);
            Boundary.due(Boundary.after("table 64 3 1;").setMultiplier(64), 64);
        });
        Boundary.test(10, "Throws `IllegalArgumentException` if `multiplier` is out of range", "0, 100 and others", () -> {
            NeighbourHash x = new NeighbourHash();
            for (int times : new int[] {Boundary.LEAST, -99, -1, 0, 100, 101, 997, 998, Boundary.GREATEST}) {
                Boundary.illegal(() -> x.setMultiplier(times));
            }
            Boundary.due(x.multiplier(), 1);
        });
        Boundary.test(10, BUILDING_FAILS, "from each number of buckets", () -> {
            for (int n : Boundary.SIZES) {
                NeighbourHash x = Boundary.after("table " + n + " 2 1;row 1 1 3;");
                Boundary.refused(() -> x.setMultiplier(64));
                Boundary.due(x.multiplier() + " " + x.bucketCount(), "1 " + n);
            }
        });
    }

    private static void setPulling() {
        Boundary.test(11, "Sets whether pulling is on.", "off and on again", () -> {
            NeighbourHash x = Boundary.after("table 8 3 1;row 1 8 2;add 5 1;add 13 1;");
            x.setPulling(false);
            x.remove(1);
            Boundary.due(Boundary.places(x), "2:9 5:5 6:13");
            x.setPulling(true);
            x.remove(5);
            Boundary.due(Boundary.places(x), "2:9 5:13");
        });
        Boundary.test(11, "Sets whether pulling is on.", "nothing is pulled when it is set", () -> {
            NeighbourHash x = Boundary.after("table 8 3 1;row 1 8 2;remove 1;");
            x.setPulling(true);
            Boundary.due(Boundary.places(x) + " " + x.pulls(), "2:9 0");
        });
        Boundary.test(11, "- `pulling`: whether it is on afterwards", "on and off, twice each", () -> {
            NeighbourHash x = new NeighbourHash();
            x.setPulling(true);
            Boundary.due(x.isPulling(), true);
            x.setPulling(false);
            Boundary.due(x.isPulling(), false);
            x.setPulling(false);
            Boundary.due(x.isPulling(), false);
            x.setPulling(true);
            Boundary.due(x.isPulling(), true);
        });
        Boundary.test(11, "Returns whether it was on before.", "on and off, twice each", () -> {
            NeighbourHash x = new NeighbourHash();
            Boundary.due(x.setPulling(true) + " " + x.setPulling(false) + " " + x.setPulling(false) + " " + x.setPulling(true) + " " + x.setPulling(true),
                "true true false false true");
        });
    }

    private static void grow() {
        Boundary.test(12, "Builds the table anew with twice as many buckets.", "without entries", () -> {
            NeighbourHash x = Boundary.after("table 8 3 1;");
            Boundary.due(x.grow() + " " + x.grow() + " " + x.grow() + " " + x.growths(), "16 32 64 3");
        });
        Boundary.test(12, "Builds the table anew with twice as many buckets.", "a full table", () -> {
            NeighbourHash x = Boundary.after(Boundary.FULL_8);
            Boundary.due(x.grow() + " " + x.longestRun() + " " + x.moves(), "16 8 0");
        });
        Boundary.test(12, BUCKETS_AFTERWARDS, "16, 32 and 64", () -> {
            Boundary.due(new NeighbourHash().grow(), 16);
            Boundary.due(Boundary.after("table 16 3 1;").grow(), 32);
            Boundary.due(Boundary.after("table 32 3 1;").grow(), 64);
        });
        Boundary.test(12, BUILDING_FAILS, "64 buckets, with and without entries", () -> {
            Boundary.refused(Boundary.after("table 64 3 1;")::grow);
            Boundary.refused(Boundary.after(Boundary.FULL_64)::grow);
            NeighbourHash x = Boundary.after("table 32 3 1;grow;");
            Boundary.refused(x::grow);
            Boundary.due(x.bucketCount() + " " + x.growths(), "64 1");
        });
    }

    private static void clear() {
        String removes = "Removes all entries at once; nothing is pulled, and the number of buckets stays the same.";
        Boundary.test(13, removes, "of a new object", () -> {
            NeighbourHash x = new NeighbourHash();
            x.clear();
            Boundary.due(Boundary.state(x), "8 3 1 true; 0 entries; hops 0 0 0 0 0 0 0 0; 0 3 0 6 6");
        });
        Boundary.test(13, removes, "without entries", () -> {
            NeighbourHash x = Boundary.after("table 16 4 7;pull;");
            x.clear();
            Boundary.due(Boundary.state(x), "16 4 7 true; 0 entries; hops 0 0 0 0 0 0 0 0 0 0 0 0 0 0 0 0; 0 0 0 0 0");
        });
        Boundary.test(13, removes, "a full table", () -> {
            NeighbourHash x = Boundary.after(Boundary.FULL_64);
            x.clear();
            Boundary.due(x.bucketCount() + " " + x.entryCount() + " " + x.longestRun() + " " + x.add(63, 1), "64 0 0 63");
        });
        Boundary.test(13, "Returns the number of entries that are removed.", "0, 5 and 64", () -> {
            NeighbourHash x = new NeighbourHash();
            Boundary.due(x.clear() + " " + x.clear(), "5 0");
            Boundary.due(Boundary.after(Boundary.FULL_64).clear(), 64);
        });
    }

    private static void undo() {
        Boundary.test(14, "Undoes the latest change that has not been undone.", "one, then another one", () -> {
            NeighbourHash x = new NeighbourHash();
            x.put(1, 100);
            x.put(3, 300);
            x.undo();
            Boundary.due(x.valueOf(1) + " " + x.valueOf(3), "100 12");
            x.undo();
            Boundary.due(x.valueOf(1) + " " + x.valueOf(3), "10 12");
        });
        String returns = "Returns the number of changes that can still be undone, or NONE if there was nothing to undo.";
        Boundary.test(14, returns, "nothing at first, nothing any more", () -> {
            NeighbourHash x = new NeighbourHash();
            Boundary.due(x.undo(), Boundary.NONE);
            x.clear();
            x.clear();
            Boundary.due(x.undo() + " " + x.undo() + " " + x.undo() + " " + x.undo(), "1 0 -1 -1");
            Boundary.due(Boundary.state(x), Boundary.NEW_STATE);
        });
        String count = "Returns the number of changes that can be undone.";
        Boundary.test(15, count, "0 to 8, and not 9", () -> {
            NeighbourHash x = new NeighbourHash();
            for (int i = 0; i <= 10; i++) {
                Boundary.due(x.undoCount(), Math.min(i, 8));
                x.clear();
            }
        });
        Boundary.test(15, count, "down to 0 and no farther", () -> {
            NeighbourHash x = new NeighbourHash();
            x.clear();
            x.clear();
            x.undo();
            Boundary.due(x.undoCount(), 1);
            x.undo();
            Boundary.due(x.undoCount(), 0);
            x.undo();
            Boundary.due(x.undoCount(), 0);
            x.clear();
            Boundary.due(x.undoCount(), 1);
        });
    }

    private static void saveSnapshot() {
        String saves = "Saves a snapshot of everything that undo restores, in place of an earlier one.";
        Boundary.test(16, saves, "everything", () -> {
            NeighbourHash x = new NeighbourHash();
            x.saveSnapshot();
            Boundary.run(x, "table 16 6 9;row 1 1 9;remove 1;grow;");
            x.restoreSnapshot();
            Boundary.due(Boundary.state(x), Boundary.NEW_STATE);
        });
        Boundary.test(16, saves, "everything of another state", () -> {
            NeighbourHash x = Boundary.after("table 8 2 3;grow;row 0 1 9;add 16 3;pull;remove 3;");
            String before = Boundary.state(x);
            x.saveSnapshot();
            Boundary.run(x, "table 8 3 1;");
            x.restoreSnapshot();
            Boundary.due(Boundary.state(x), before);
        });
        Boundary.test(16, saves, "in place of an earlier one", () -> {
            NeighbourHash x = new NeighbourHash();
            x.saveSnapshot();
            x.put(1, 500);
            x.saveSnapshot();
            x.put(1, 600);
            x.restoreSnapshot();
            Boundary.due(x.valueOf(1), 500);
        });
        Boundary.test(16, saves, "not the input, the script error and the report", () -> {
            NeighbourHash x = new NeighbourHash();
            x.saveSnapshot();
            Boundary.run(x, "table 8 3 0;");
            x.append(0, 0, 0, 0, 0);
            x.writeTable();
            x.restoreSnapshot();
            Boundary.due(x.scriptErrorKind() + " " + x.scriptErrorOffset() + " " + Boundary.inputLength(x) + " " + x.reportByte(0), "2 10 20 46");
        });
        Boundary.test(16, "This is not a change.", "it cannot be undone, and what was before still can", () -> {
            NeighbourHash x = new NeighbourHash();
            x.put(1, 500);
            x.saveSnapshot();
            Boundary.due(x.undoCount() + " " + x.valueOf(1), "1 500");
            x.undo();
            Boundary.due(Boundary.state(x), Boundary.NEW_STATE);
        });
        Boundary.test(16, "This is not a change.", "the table stays", () -> {
            NeighbourHash x = new NeighbourHash();
            x.saveSnapshot();
            Boundary.due(Boundary.state(x) + " " + x.undoCount(), Boundary.NEW_STATE + " 0");
        });
        Boundary.test(16, ENTRIES, "0, 5 and 64", () -> {
            NeighbourHash x = new NeighbourHash();
            Boundary.due(x.saveSnapshot(), 5);
            x.clear();
            Boundary.due(x.saveSnapshot(), 0);
            Boundary.due(Boundary.after(Boundary.FULL_64).saveSnapshot(), 64);
        });
    }

    private static void restoreSnapshot() {
        String restores = "Restores the snapshot, which stays saved.";
        Boundary.test(17, restores, "twice, with a change in between", () -> {
            NeighbourHash x = new NeighbourHash();
            x.saveSnapshot();
            x.clear();
            x.restoreSnapshot();
            Boundary.due(Boundary.state(x), Boundary.NEW_STATE);
            x.put(1, 500);
            x.grow();
            x.restoreSnapshot();
            Boundary.due(Boundary.state(x), Boundary.NEW_STATE);
        });
        Boundary.test(17, restores, "with nothing changed", () -> {
            NeighbourHash x = new NeighbourHash();
            x.saveSnapshot();
            Boundary.due(x.restoreSnapshot() + " " + Boundary.state(x), "5 " + Boundary.NEW_STATE);
        });
        Boundary.test(17, restores, "it stays through a script", () -> {
            NeighbourHash x = new NeighbourHash();
            x.saveSnapshot();
            Boundary.run(x, "table 8 3 1;");
            Boundary.due(x.restoreSnapshot() + " " + Boundary.state(x), "5 " + Boundary.NEW_STATE);
        });
        String nothing = "Nothing can be undone afterwards.";
        Boundary.test(17, nothing, "neither it nor what was before", () -> {
            NeighbourHash x = new NeighbourHash();
            for (int i = 0; i < 9; i++) {
                x.clear();
            }
            x.saveSnapshot();
            x.restoreSnapshot();
            Boundary.due(x.undoCount() + " " + x.undo() + " " + x.entryCount(), "0 -1 0");
        });
        Boundary.test(17, nothing, "but what comes after it", () -> {
            NeighbourHash x = new NeighbourHash();
            x.saveSnapshot();
            x.clear();
            x.restoreSnapshot();
            x.put(1, 500);
            Boundary.due(x.undoCount() + " " + x.undo() + " " + x.undo() + " " + x.valueOf(1), "1 0 -1 10");
        });
        Boundary.test(17, ENTRIES, "0 and 5", () -> {
            NeighbourHash x = new NeighbourHash();
            x.saveSnapshot();
            x.clear();
            Boundary.due(x.restoreSnapshot(), 5);
            x.clear();
            x.saveSnapshot();
            x.put(1, 1);
            Boundary.due(x.restoreSnapshot(), 0);
        });
        String wrong = "Throws `NoSuchElementException` if no snapshot was saved";
        Boundary.test(17, wrong, "at once, after changes and after a script", () -> {
            NeighbourHash x = new NeighbourHash();
            Boundary.missing(x::restoreSnapshot);
            x.clear();
            Boundary.missing(x::restoreSnapshot);
            Boundary.run(x, "table 8 3 1;");
            Boundary.missing(x::restoreSnapshot);
        });
        Boundary.test(17, wrong, "a snapshot without entries is one", () -> {
            NeighbourHash x = Boundary.after("table 8 3 1;");
            x.saveSnapshot();
            Boundary.due(x.restoreSnapshot(), 0);
        });
    }
}
