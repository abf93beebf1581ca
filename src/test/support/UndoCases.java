import java.util.function.Consumer;
import java.util.function.ToIntFunction;

/** Boundary cases of the Terms: undo and exceptions. */
final class UndoCases {
    private static final String ARE_CHANGES = "The methods from `runScript` to `clear` are changes.";
    private static final String CAN_BE_UNDONE = "Each call of a change that does not throw an exception, and each successful script, can be undone,"
        + " the latest one first";
    private static final String LATEST_8 = "the latest 8 are remembered.";
    private static final String RESTORES = "Undoing restores everything except the input buffer, the script error, the report and the snapshot.";
    private static final String CHANGES_NOTHING = "A call that throws an exception changes nothing.";
    private static final String LISTED_FIRST = "If several exceptions apply to a call, the one that is listed first is thrown.";

    private UndoCases() {
    }

    static void list() {
        eachChange();
        noChanges();
        latestFirst();
        latestEight();
        restored();
        notRestored();
        throwingChanges();
        throwingQuestions();
        listedFirst();
    }

    private static void change(int promise, String what, Consumer<NeighbourHash> call) {
        Boundary.test(promise, CAN_BE_UNDONE, what, () -> {
            NeighbourHash x = new NeighbourHash();
            call.accept(x);
            Boundary.due("undoCount()", x.undoCount(), 1);
            Boundary.due("undo()", x.undo(), 0);
            Boundary.due("the state", Boundary.state(x), Boundary.NEW_STATE);
            Boundary.due("undo() again", x.undo(), Boundary.NONE);
            Boundary.due("the state again", Boundary.state(x), Boundary.NEW_STATE);
        });
        Boundary.test(15, ARE_CHANGES, what, () -> {
            NeighbourHash x = new NeighbourHash();
            call.accept(x);
            Boundary.due(x.undoCount(), 1);
        });
    }

    private static void eachChange() {
        change(4, "a script", x -> Boundary.run(x, "table 16 4 5;row 3 3 9;pull;remove 3;"));
        change(4, "a script without commands", x -> Boundary.run(x, "table 8 3 1;"));
        change(4, "the script of a new object", x -> Boundary.run(x,
            "table 8 3 1; add 1 10; add 9 11; add 3 12; add 17 13; add 4 14; pull; remove 9; add 12 15;"));
        change(5, "add, with two displaced", x -> x.add(9, 1));
        change(6, "put of a new key", x -> x.put(9, 1));
        change(6, "put of a key that there is", x -> x.put(1, 500));
        change(6, "put of the value that it has", x -> x.put(1, 10));
        change(7, "addRow of five keys", x -> x.addRow(20, 1, 5));
        change(7, "addRow of keys that there are", x -> x.addRow(1, 2, 2));
        change(7, "addRow, and it grows", x -> x.addRow(20, 1, 20));
        change(8, "remove, with a pulled entry", x -> x.remove(1));
        change(8, "remove, with nothing pulled", x -> x.remove(3));
        change(9, "another neighbourhood", x -> x.setNeighbourhood(6));
        change(9, "the neighbourhood that it has", x -> x.setNeighbourhood(3));
        change(10, "another multiplier", x -> x.setMultiplier(5));
        change(10, "the multiplier that it has", x -> x.setMultiplier(1));
        change(11, "pulling off", x -> x.setPulling(false));
        change(11, "pulling on, as it is", x -> x.setPulling(true));
        change(12, "grow", NeighbourHash::grow);
        change(13, "clear", NeighbourHash::clear);
        Boundary.test(5, CAN_BE_UNDONE, "add, and it grows", () -> {
            NeighbourHash x = Boundary.after(Boundary.FULL_8);
            String before = Boundary.state(x);
            Boundary.due(x.add(8, 1) + " " + x.bucketCount(), "8 16");
            Boundary.due(x.undo(), 1);
            Boundary.due(Boundary.state(x), before);
        });
        Boundary.test(13, CAN_BE_UNDONE, "clear without entries", () -> {
            NeighbourHash x = Boundary.after("table 8 3 1;");
            x.clear();
            Boundary.due(x.undoCount() + " " + x.undo() + " " + x.undo() + " " + x.undo(), "2 1 0 -1");
        });
    }

    private static void noChanges() {
        Boundary.test(15, ARE_CHANGES, "no other method is one", () -> {
            NeighbourHash x = new NeighbourHash();
            x.clear();
            x.append(0, 0, 0, 0, 0);
            x.truncateInput(0);
            x.saveSnapshot();
            x.writeTable();
            x.whyNoAdd(5);
            x.placeFor(5);
            x.movesFor(5);
            x.bucketsAfter(5);
            x.pullsFor(1);
            x.bucketsWith(2);
            x.bestMultiplier(30);
            Boundary.due(x.undoCount(), 1);
        });
        Boundary.test(15, CAN_BE_UNDONE, "a script with an error cannot", () -> {
            NeighbourHash x = new NeighbourHash();
            x.clear();
            Boundary.run(x, "table 8 3 1;add 1 1;foo");
            Boundary.due(x.undoCount(), 1);
            Boundary.due(x.undo(), 0);
            Boundary.due(x.entryCount(), 5);
        });
        Boundary.test(15, CAN_BE_UNDONE, "a call that throws cannot", () -> {
            NeighbourHash x = new NeighbourHash();
            Boundary.illegal(() -> x.add(-1, 1));
            Boundary.refused(() -> x.add(1, 1));
            Boundary.missing(() -> x.remove(5));
            Boundary.due(x.undoCount(), 0);
        });
    }

    private static void latestFirst() {
        Boundary.test(14, CAN_BE_UNDONE, "each change in its turn", () -> {
            NeighbourHash x = new NeighbourHash();
            String first = Boundary.state(x);
            x.grow();
            String second = Boundary.state(x);
            x.remove(1);
            String third = Boundary.state(x);
            x.setPulling(false);
            x.undo();
            Boundary.due(Boundary.state(x), third);
            x.undo();
            Boundary.due(Boundary.state(x), second);
            x.undo();
            Boundary.due(Boundary.state(x), first);
        });
        Boundary.test(14, CAN_BE_UNDONE, "a change that was undone is gone", () -> {
            NeighbourHash x = new NeighbourHash();
            x.put(1, 100);
            x.put(1, 200);
            x.undo();
            x.put(1, 300);
            Boundary.due(x.undo(), 1);
            Boundary.due(x.valueOf(1), 100);
            Boundary.due(x.undo(), 0);
            Boundary.due(x.valueOf(1), 10);
        });
    }

    private static void latestEight() {
        for (int count = 7; count <= 20; count++) {
            int changes = count;
            int kept = Math.min(8, count);
            Boundary.test(15, LATEST_8, changes + " changes", () -> {
                NeighbourHash x = new NeighbourHash();
                for (int i = 1; i <= changes; i++) {
                    x.put(1, 100 + i);
                }
                Boundary.due(x.undoCount(), kept);
            });
            Boundary.test(14, LATEST_8, changes + " changes", () -> {
                NeighbourHash x = new NeighbourHash();
                for (int i = 1; i <= changes; i++) {
                    x.put(1, 100 + i);
                }
                for (int i = 1; i <= kept; i++) {
                    Boundary.due(x.undo(), kept - i);
                    Boundary.due(x.valueOf(1), i == changes ? 10 : 100 + changes - i);
                }
                Boundary.due(x.undo(), Boundary.NONE);
                Boundary.due(x.valueOf(1), changes <= 8 ? 10 : 100 + changes - 8);
            });
        }
        Boundary.test(14, LATEST_8, "some undone, then others", () -> {
            NeighbourHash x = new NeighbourHash();
            for (int i = 1; i <= 10; i++) {
                x.put(1, 100 + i);
            }
            Boundary.due(x.undo() + " " + x.undo() + " " + x.undo(), "7 6 5");
            for (int i = 1; i <= 5; i++) {
                x.put(1, 200 + i);
            }
            Boundary.due(x.undoCount(), 8);
            for (int i = 4; i >= 1; i--) {
                x.undo();
                Boundary.due(x.valueOf(1), 200 + i);
            }
            for (int i = 7; i >= 4; i--) {
                x.undo();
                Boundary.due(x.valueOf(1), 100 + i);
            }
            Boundary.due(x.undo(), Boundary.NONE);
        });
        Boundary.test(14, LATEST_8, "calls that throw, and scripts with errors, do not count", () -> {
            NeighbourHash x = Boundary.after(Boundary.STUCK);
            for (int i = 1; i <= 8; i++) {
                x.put(5, 100 + i);
            }
            Boundary.refused(() -> x.add(1999, 1));
            Boundary.illegal(() -> x.add(10000, 1));
            Boundary.missing(() -> x.remove(1));
            Boundary.run(x, "table 8 3 1;foo");
            for (int i = 7; i >= 1; i--) {
                x.undo();
                Boundary.due(x.valueOf(5), 100 + i);
            }
            Boundary.due(x.undo(), 0);
            Boundary.due(x.valueOf(5), 1);
        });
        Boundary.test(14, LATEST_8, "of 512 calls", () -> {
            NeighbourHash x = new NeighbourHash();
            for (int i = 1; i <= 500; i++) {
                x.put(1, i);
            }
            for (int i = 1; i <= 8; i++) {
                Boundary.due(x.undo(), 8 - i);
            }
            Boundary.due(x.undo() + " " + x.valueOf(1), "-1 492");
        });
    }

    private static void restores(int promise, String what, Consumer<NeighbourHash> change, ToIntFunction<NeighbourHash> question) {
        Boundary.test(promise, RESTORES, what, () -> {
            NeighbourHash x = new NeighbourHash();
            int before = question.applyAsInt(x);
            change.accept(x);
            Boundary.due("whether it was another one in between", question.applyAsInt(x) != before, true);
            x.undo();
            Boundary.due(question.applyAsInt(x), before);
        });
    }

    private static void restored() {
        restores(20, "the number of buckets", NeighbourHash::grow, NeighbourHash::bucketCount);
        restores(20, "the number of buckets, after a script", x -> Boundary.run(x, "table 64 3 1;"), NeighbourHash::bucketCount);
        restores(21, "the number of entries", NeighbourHash::clear, NeighbourHash::entryCount);
        restores(22, "the neighbourhood", x -> x.setNeighbourhood(6), NeighbourHash::neighbourhood);
        restores(23, "the multiplier", x -> x.setMultiplier(7), NeighbourHash::multiplier);
        restores(24, "pulling", x -> x.setPulling(false), x -> x.isPulling() ? 1 : 0);
        restores(25, "a key", x -> x.remove(1), x -> x.keyAt(1));
        restores(26, "a value", x -> x.put(1, 500), x -> x.valueAt(1));
        restores(27, "hop bits", x -> x.remove(1), x -> x.hopBits(1));
        restores(47, "the moves", NeighbourHash::clear, NeighbourHash::moves);
        restores(47, "the moves, after others", x -> x.add(9, 1), NeighbourHash::moves);
        restores(48, "the pulls", x -> x.remove(1), NeighbourHash::pulls);
        restores(49, "the growths", NeighbourHash::grow, NeighbourHash::growths);
        restores(50, "the added ones", x -> x.add(0, 1), NeighbourHash::addedCount);
        restores(51, "the removed ones", x -> x.remove(1), NeighbourHash::removedCount);
        Boundary.test(14, RESTORES, "after a script", () -> {
            NeighbourHash x = new NeighbourHash();
            Boundary.run(x, "table 16 6 9;row 1 1 9;pull;remove 1;grow;");
            x.undo();
            Boundary.due(Boundary.state(x), Boundary.NEW_STATE);
        });
    }

    private static void notRestored() {
        Boundary.test(14, RESTORES, "the input buffer is not", () -> {
            NeighbourHash x = new NeighbourHash();
            x.append(0, 0, 0, 0, 0);
            x.clear();
            x.append(0, 0, 0, 0, 0);
            x.undo();
            Boundary.due(Boundary.inputLength(x), 40);
        });
        Boundary.test(14, RESTORES, "the input buffer that a script has emptied is not", () -> {
            NeighbourHash x = Boundary.after("table 8 3 1;");
            x.undo();
            Boundary.due(Boundary.inputLength(x), 0);
        });
        Boundary.test(14, RESTORES, "an error of a script is not", () -> {
            NeighbourHash x = new NeighbourHash();
            x.clear();
            Boundary.run(x, "table 8 3 0;");
            x.undo();
            Boundary.due(x.scriptErrorKind() + " " + x.scriptErrorOffset(), "2 10");
        });
        Boundary.test(14, RESTORES, "that a script had no error is not", () -> {
            NeighbourHash x = new NeighbourHash();
            Boundary.run(x, "table 8 3 0;");
            Boundary.run(x, "table 8 3 1;");
            x.undo();
            Boundary.due(x.scriptErrorKind() + " " + x.scriptErrorOffset(), "0 -1");
        });
        Boundary.test(14, RESTORES, "the report is not", () -> {
            NeighbourHash x = new NeighbourHash();
            x.writeTable();
            x.clear();
            x.writeTable();
            x.undo();
            Boundary.due(x.reportByte(2) + " " + x.reportByte(15), (int) '.' + " -1");
        });
        Boundary.test(14, RESTORES, "the snapshot is not", () -> {
            NeighbourHash x = new NeighbourHash();
            x.saveSnapshot();
            x.clear();
            x.saveSnapshot();
            x.undo();
            Boundary.due(x.entryCount(), 5);
            Boundary.due(x.restoreSnapshot(), 0);
        });
        Boundary.test(14, RESTORES, "that no snapshot was saved is not", () -> {
            NeighbourHash x = new NeighbourHash();
            x.clear();
            x.saveSnapshot();
            x.undo();
            Boundary.due(x.restoreSnapshot(), 0);
        });
    }

    // ---- exceptions

    interface ThrowingCall {
        void made(NeighbourHash x);
    }

    private static void nothing(int promise, String what, String setup, ThrowingCall call) {
        Boundary.test(promise, CHANGES_NOTHING, what, () -> {
            NeighbourHash x = setup.isEmpty() ? new NeighbourHash() : Boundary.after(setup);
            x.append(1, 2, 3, 4, 5);
            Boundary.changesNothing(x, () -> call.made(x));
        });
    }

    private static void throwingChanges() {
        nothing(3, "a length that is negative or too great", "", x -> {
            Boundary.illegal(() -> x.truncateInput(-1));
            Boundary.illegal(() -> x.truncateInput(21));
        });
        nothing(5, "a key or a value out of range", "", x -> {
            Boundary.illegal(() -> x.add(-1, 1));
            Boundary.illegal(() -> x.add(5, 1000));
        });
        nothing(5, "a key that there is", "", x -> Boundary.refused(() -> x.add(1, 500)));
        nothing(5, "more than 64 buckets", Boundary.STUCK, x -> Boundary.refused(() -> x.add(1999, 500)));
        nothing(5, "more than 64 buckets, with displaced entries", "table 64 2 1;row 0 64 2;row 2 1 2;", x -> Boundary.refused(() -> x.add(128, 500)));
        nothing(6, "a key or a value out of range", "", x -> {
            Boundary.illegal(() -> x.put(10000, 1));
            Boundary.illegal(() -> x.put(1, 1000));
        });
        nothing(6, "more than 64 buckets", Boundary.STUCK, x -> Boundary.refused(() -> x.put(1999, 500)));
        nothing(7, "a parameter out of range", "", x -> {
            Boundary.illegal(() -> x.addRow(20, 1, 21));
            Boundary.illegal(() -> x.addRow(9990, 5, 3));
        });
        // 7 and 1004 are added before, and 0 is displaced.
        nothing(7, "more than 64 buckets for the last of the row", "table 8 2 1;add 0 1;", x -> Boundary.refused(() -> x.addRow(7, 997, 3)));
        nothing(7, "more than 64 buckets, when others were added", Boundary.STUCK, x -> Boundary.refused(() -> x.addRow(1997, 1, 3)));
        nothing(8, "no such entry", "", x -> {
            Boundary.missing(() -> x.remove(9));
            Boundary.missing(() -> x.remove(-1));
        });
        nothing(9, "out of range", "", x -> Boundary.illegal(() -> x.setNeighbourhood(7)));
        nothing(9, "building it anew fails", "table 8 3 1;row 5 997 3;", x -> Boundary.refused(() -> x.setNeighbourhood(2)));
        nothing(10, "out of range", "", x -> Boundary.illegal(() -> x.setMultiplier(100)));
        nothing(10, "building it anew fails", "table 8 2 1;row 1 1 3;", x -> Boundary.refused(() -> x.setMultiplier(64)));
        nothing(12, "building it anew fails", "table 64 3 1;row 1 1 9;", x -> Boundary.refused(x::grow));
        nothing(17, "no snapshot", "", x -> Boundary.missing(x::restoreSnapshot));
        Boundary.test(17, CHANGES_NOTHING, "what can be undone stays when there is no snapshot", () -> {
            NeighbourHash x = new NeighbourHash();
            x.clear();
            Boundary.missing(x::restoreSnapshot);
            Boundary.due(x.undoCount() + " " + x.undo() + " " + x.entryCount(), "1 0 5");
        });
        Boundary.test(5, CHANGES_NOTHING, "the snapshot stays", () -> {
            NeighbourHash x = new NeighbourHash();
            x.saveSnapshot();
            Boundary.run(x, Boundary.STUCK);
            Boundary.refused(() -> x.add(1999, 1));
            x.restoreSnapshot();
            Boundary.due(Boundary.state(x), Boundary.NEW_STATE);
        });
    }

    private static void throwingQuestions() {
        nothing(25, "no such bucket", "", x -> Boundary.outside(() -> x.keyAt(8)));
        nothing(26, "no such bucket", "", x -> Boundary.outside(() -> x.valueAt(8)));
        nothing(27, "no such bucket", "", x -> Boundary.outside(() -> x.hopBits(8)));
        nothing(28, "no such bucket", "", x -> Boundary.outside(() -> x.entriesOf(8)));
        nothing(29, "no such bucket", "", x -> Boundary.outside(() -> x.freeDistance(8)));
        nothing(32, "out of range", "", x -> Boundary.illegal(() -> x.homeOf(10000)));
        nothing(33, "out of range", "", x -> Boundary.illegal(() -> x.bucketOf(10000)));
        nothing(34, "out of range", "", x -> Boundary.illegal(() -> x.valueOf(10000)));
        nothing(35, "out of range", "", x -> Boundary.illegal(() -> x.distanceOf(10000)));
        nothing(36, "out of range", "", x -> Boundary.illegal(() -> x.looksFor(10000)));
        nothing(39, "out of range", "", x -> Boundary.illegal(() -> x.rank(10000)));
        nothing(40, "out of range", "", x -> Boundary.illegal(() -> x.whyNoAdd(10000)));
        nothing(41, "out of range", "", x -> Boundary.illegal(() -> x.placeFor(10000)));
        nothing(42, "out of range", "", x -> Boundary.illegal(() -> x.movesFor(10000)));
        nothing(43, "out of range", "", x -> Boundary.illegal(() -> x.bucketsAfter(10000)));
        nothing(44, "out of range", "", x -> Boundary.illegal(() -> x.pullsFor(10000)));
        nothing(45, "out of range", "", x -> Boundary.illegal(() -> x.bucketsWith(7)));
        nothing(46, "out of range", "", x -> Boundary.illegal(() -> x.bestMultiplier(31)));
    }

    private static void listedFirst() {
        Boundary.test(5, LISTED_FIRST, "a value out of range, and a key that there is or that has no place", () -> {
            NeighbourHash x = Boundary.after(Boundary.STUCK);
            Boundary.illegal(() -> x.add(5, 1000));
            Boundary.illegal(() -> x.add(5, -1));
            Boundary.illegal(() -> x.add(1999, 1000));
        });
        Boundary.test(6, LISTED_FIRST, "a value out of range, and a key that has no place", () -> {
            NeighbourHash x = Boundary.after(Boundary.STUCK);
            Boundary.illegal(() -> x.put(1999, 1000));
            Boundary.illegal(() -> x.put(1999, -1));
        });
        Boundary.test(7, LISTED_FIRST, "a parameter out of range, and a key that has no place", () -> {
            NeighbourHash x = Boundary.after(Boundary.STUCK);
            Boundary.illegal(() -> x.addRow(1999, 0, 1));
            Boundary.illegal(() -> x.addRow(1999, 1000, 1));
            Boundary.illegal(() -> x.addRow(1999, 1, 21));
            // 1999 comes before 10000.
            Boundary.illegal(() -> x.addRow(1999, 422, 20));
            Boundary.illegal(() -> x.addRow(1999, 889, 10));
        });
        Boundary.test(9, LISTED_FIRST, "out of range, and building it anew would fail", () -> {
            NeighbourHash x = Boundary.after("table 8 3 1;row 5 997 3;");
            Boundary.illegal(() -> x.setNeighbourhood(1));
            Boundary.illegal(() -> x.setNeighbourhood(0));
        });
        Boundary.test(10, LISTED_FIRST, "out of range, and building it anew would fail", () -> {
            NeighbourHash x = Boundary.after("table 8 2 1;row 1 1 3;");
            Boundary.illegal(() -> x.setMultiplier(0));
            Boundary.illegal(() -> x.setMultiplier(128));
        });
    }
}
