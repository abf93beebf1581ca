/** Each promise of the document by itself, with answers worked out by hand: ordinary inputs, edges and wrong inputs. */
public final class PromiseTests {
    private static final String NEW = "1:1 2:17 3:3 4:4 5:12";
    /** A third key with the same home (they are all 5 modulo 997) has no place with H 2, however many buckets there are. */
    private static final String STUCK = "table 8 2 1;add 5 1;add 1002 2;";
    /** Their homes are 53, 21 and 53 with the multiplier 1, but all 5 with the multiplier 2. */
    private static final String STUCK_BY_TIMES = "table 64 2 1;add 501 1;add 533 2;add 565 3;";
    private static final String FULL_8 = "table 8 6 1;row 0 1 8;";
    private static final String FULL_64 = "table 64 2 1;row 0 1 20;row 20 1 20;row 40 1 20;row 60 1 4;";

    private static int wrong = 0;
    private static int promise = 0;

    private interface Call {
        Object answer();
    }

    private static void due(String call, Object got, Object want) {
        if (!got.equals(want)) {
            wrong++;
            System.out.println("promise " + promise + ": " + call + " answered " + got + ", due is " + want);
        }
    }

    private static void throwing(String name, String exception, Call call) {
        Object got;
        try {
            got = call.answer();
        } catch (RuntimeException e) {
            got = e.getClass().getSimpleName();
        }
        due(name, got, exception);
    }

    private static void illegal(String name, Call call) {
        throwing(name, "IllegalArgumentException", call);
    }

    private static void refused(String name, Call call) {
        throwing(name, "IllegalStateException", call);
    }

    private static void missing(String name, Call call) {
        throwing(name, "NoSuchElementException", call);
    }

    private static void outside(String name, Call call) {
        throwing(name, "IndexOutOfBoundsException", call);
    }

    private static void feed(NeighbourHash x, String text) {
        for (int i = 0; i < text.length(); i += 20) {
            int[] w = new int[5];
            for (int j = 0; j < 20; j++) {
                w[j / 4] = w[j / 4] << 8 | (i + j < text.length() ? text.charAt(i + j) : 0);
            }
            x.append(w[0], w[1], w[2], w[3], w[4]);
        }
        x.truncateInput(text.length());
    }

    private static NeighbourHash after(String script) {
        NeighbourHash x = new NeighbourHash();
        feed(x, script);
        if (x.runScript() == -1) {
            wrong++;
            System.out.println("promise " + promise + ": error " + x.scriptErrorKind() + " at " + x.scriptErrorOffset() + " of " + script);
        }
        return x;
    }

    /** The entries as bucket:key. */
    private static String places(NeighbourHash x) {
        StringBuilder text = new StringBuilder();
        for (int b = 0; b < x.bucketCount(); b++) {
            if (x.keyAt(b) != -1) {
                text.append(text.length() == 0 ? "" : " ").append(b).append(':').append(x.keyAt(b));
            }
        }
        return text.toString();
    }

    private static void isTable(NeighbourHash x, String want) {
        due("the table", places(x), want);
    }

    private static String counters(NeighbourHash x) {
        return x.moves() + " " + x.pulls() + " " + x.growths() + " " + x.addedCount() + " " + x.removedCount();
    }

    private static String settings(NeighbourHash x) {
        return x.bucketCount() + " " + x.neighbourhood() + " " + x.multiplier() + " " + x.isPulling();
    }

    private static String report(NeighbourHash x) {
        StringBuilder text = new StringBuilder();
        int length = x.writeTable();
        for (int i = 0; i < length; i++) {
            text.append((char) x.reportByte(i));
        }
        return text.toString();
    }

    /** The sign ^ in the script stands before the token with the error; nothing else may change. */
    private static void scriptError(int kind, String marked) {
        int offset = marked.indexOf('^');
        String script = marked.substring(0, offset) + marked.substring(offset + 1);
        NeighbourHash x = new NeighbourHash();
        x.put(1, 500);
        feed(x, script);
        due("runScript() of " + script, x.runScript(), -1);
        due("kind of " + script, x.scriptErrorKind(), kind);
        due("offset of " + script, x.scriptErrorOffset(), offset);
        isTable(x, NEW);
        due("counters", counters(x), "1 3 0 6 1");
        due("settings", settings(x), "8 3 1 true");
        due("undoCount()", x.undoCount(), 1);
        illegal("the input after " + script, () -> x.truncateInput(1));
        due("undo()", x.undo(), 0);
        due("valueOf(1)", x.valueOf(1), 10);
    }

    private static void newObject() {
        promise = 1;
        NeighbourHash x = new NeighbourHash();
        isTable(x, NEW);
        due("values", x.valueOf(1) + " " + x.valueOf(17) + " " + x.valueOf(3) + " " + x.valueOf(4) + " " + x.valueOf(12), "10 13 12 14 15");
        due("counters", counters(x), "1 3 0 6 1");
        due("settings", settings(x), "8 3 1 true");
        due("undoCount()", x.undoCount(), 0);
        due("undo()", x.undo(), -1);
        due("reportByte(0)", x.reportByte(0), -1);
        missing("restoreSnapshot()", x::restoreSnapshot);
        due("truncateInput(0)", x.truncateInput(0), 0);
        illegal("truncateInput(1)", () -> x.truncateInput(1));
        due("error", x.scriptErrorKind() + " " + x.scriptErrorOffset(), "0 -1");
    }

    private static void input() {
        promise = 2;
        NeighbourHash x = new NeighbourHash();
        for (int i = 1; i <= 30; i++) {
            due("append()", x.append(-1, 0, 0, 0, i), 20 * i);
        }
        due("append() to 600 bytes", x.append(0, 0, 0, 0, 0), -1);
        due("truncateInput(581)", x.truncateInput(581), 581);
        due("append() to 581 bytes", x.append(0, 0, 0, 0, 0), -1);
        due("truncateInput(581) again", x.truncateInput(581), 581);
        due("truncateInput(580)", x.truncateInput(580), 580);
        due("append() to 580 bytes", x.append(0, 0, 0, 0, 0), 600);
        due("undoCount()", x.undoCount(), 0);
        // "tabl", "e 8 ", "3 1;", "add ", "5 6;"
        NeighbourHash y = new NeighbourHash();
        y.append(0x7461626c, 0x65203820, 0x3320313b, 0x61646420, 0x3520363b);
        due("runScript()", y.runScript(), 1);
        due("valueOf(5)", y.valueOf(5), 6);

        promise = 3;
        NeighbourHash z = new NeighbourHash();
        z.append(1, 2, 3, 4, 5);
        illegal("truncateInput(21)", () -> z.truncateInput(21));
        illegal("truncateInput(-1)", () -> z.truncateInput(-1));
        illegal("truncateInput(least)", () -> z.truncateInput(Integer.MIN_VALUE));
        due("truncateInput(20)", z.truncateInput(20), 20);
        due("truncateInput(7)", z.truncateInput(7), 7);
        illegal("truncateInput(8)", () -> z.truncateInput(8));
        due("append()", z.append(0, 0, 0, 0, 0), 27);
        due("truncateInput(0)", z.truncateInput(0), 0);
        due("undoCount()", z.undoCount(), 0);
    }

    private static void goodScripts() {
        promise = 4;
        NeighbourHash x = after("table 16 4 2;\nput 7 70;put 7 71; row 1 1 3;pull;lie;near 5;times 3;remove 2;grow;");
        isTable(x, "3:1 9:3 21:7");
        due("valueOf(7)", x.valueOf(7), 71);
        due("valueOf(3)", x.valueOf(3), 0);
        due("settings", settings(x), "32 5 3 false");
        due("counters", counters(x), "0 0 1 4 1");
        due("undo()", x.undo(), 0);
        isTable(x, NEW);
        due("settings", settings(x), "8 3 1 true");
        feed(x, "table 8 3 1;add 4 4;add 5 5;");
        due("runScript()", x.runScript(), 2);
        due("the input afterwards", x.append(0, 0, 0, 0, 0), 20);
        due("no commands", after("table 64 2 99;").entryCount(), 0);
        due("its settings", settings(after("table 64 6 99;")), "64 6 99 false");
        due("pull", after("table 8 3 1;pull;").isPulling(), true);
        due("clear", counters(after("table 8 3 1;add 1 1;add 2 2;clear;add 3 3;")), "0 0 0 3 2");
        due("no blanks", after("table8 3 1;add1 2;repeat2(remove1;add1 9;);").removedCount(), 2);
        due("leading zeros", after("table 0008 0003 0001;add 0001 0002;").valueOf(1), 2);
        due("no commands in repeats", after("table 8 3 1;repeat 20 ( repeat 20 ( ) ; ) ;").entryCount(), 0);
        due("repeats one behind the other", after("table 8 3 1;repeat 1(repeat 1();repeat 2(clear;put 1 1;););repeat 1(clear;);").addedCount(), 2);
        due("repeat in repeat", after("table 8 3 1;repeat 3(repeat 4(clear;put 1 1;);put 2 2;);").addedCount(), 15);
        due("200 commands and a repeat", after("table 8 3 1;repeat 10(repeat 10(pull;lie;););repeat 5();").entryCount(), 0);
        due("blanks at the end", after("table 8 3 1;add 1 1; \n ").entryCount(), 1);
        due("600 bytes", after("table 8 3 1;" + " ".repeat(580) + "add 1 1;").entryCount(), 1);
        due("edges", after("table 8 2 1;add 0 0;put 9999 999;row 9999 999 1;row 9980 1 20;near 6;times 99;").entryCount(), 21);
    }

    private static void scriptErrors() {
        promise = 4;
        String t = "table 8 3 1;";
        String[] wrongTokens = {"^", "  \n^", "^add 1 1;", "^;", "^tables 8 3 1;", "table^;", "table ^x", "table 8 3^;",
            "table 8 3 1^", "table 8 3 1 ^", "table 8 3 1 ^1;", "table ^00008 3 1;", t + "^foo;", t + "^table 8 3 1;", t + "^;", t + "^)",
            t + "^5;", t + "add ^x;", t + "add 1^;", t + "add 1 2 ^3;", t + "add 1 ^00001;", t + "add ^10000 1;", t + "^ADD 1 1;",
            t + "^adds 1 1;", t + "^ad 1 1;", t + "^clearz;", t + "^aclear;", t + "add 1 1;^\t", t + "add 1 1^\r;", t + "add 1 1;^" + (char) 228, t + "^" + (char) 0,
            t + "pull^(", t + "repeat 2^;", t + "repeat ^(", t + "repeat 2(pull^)", t + "repeat 2(pull;^", t + "repeat 2(^",
            t + "repeat 2(pull;)^", t + "repeat 2(pull;)^pull;", t + "repeat 2(^(", t + "add 1 1;add 1 2^", t + "add 1 1;add 1 2 ^",
            t + "row 1 1^;", t + "remove ^;", t + "add 1 1^,"};
        for (String script : wrongTokens) {
            scriptError(1, script);
        }
        String[] wrongNumbers = {"table ^9 3 1;", "table ^128 3 1;", "table ^4 3 1;", "table ^0 3 1", "table 8 ^1 1;", "table 8 ^7 1;",
            "table 8 3 ^0;", "table 8 3 ^100;", t + "add 1 ^1000;", t + "put 1 ^1000;", t + "row 1 ^0 1;", t + "row 1 ^1000 1;",
            t + "row 1 1 ^0;", t + "row 1 1 ^21;", t + "row 9990 5 ^3;", t + "row 9999 1 ^2;", t + "remove ^5;foo", t + "near ^1;", t + "near ^7;",
            t + "times ^0;", t + "times ^100;", t + "repeat ^0 (", t + "repeat ^21 (", t + "add 1 1;repeat 2(remove ^1;);",
            t + "add 1 1;clear;remove ^1;"};
        for (String script : wrongNumbers) {
            scriptError(2, script);
        }
        String[] notPossible = {t + "add 1 1;add 1 2^;", t + "repeat 2(add 1 1^;);", STUCK + "add 1999 3^;", STUCK + "put 1999 3 ^;",
            STUCK + "row 1999 1 1^;", STUCK + "near 3;add 1999 3;near 2^;", STUCK_BY_TIMES + "times 2^;", "table 64 3 1;grow^;",
            t + "repeat 4(grow^;);foo"};
        for (String script : notPossible) {
            scriptError(3, script);
        }
        String twoHundred = t + "repeat 20(repeat 10(pull;););";
        scriptError(4, t + "repeat 1(repeat 1(^repeat 1();););");
        scriptError(4, t + "repeat 1(repeat 1(pull;^repeat");
        scriptError(4, twoHundred + "repeat 1(repeat 1(^repeat");
        scriptError(5, twoHundred + "^lie;");
        scriptError(5, twoHundred + "^add x");
        scriptError(5, twoHundred + "repeat 1(^near 9;);");
        scriptError(5, t + "repeat 20(repeat 10(^pull;);lie;);");
        scriptError(1, twoHundred + "^foo;");
    }

    private static void adding() {
        promise = 5;
        NeighbourHash x = new NeighbourHash();
        due("add(9, 20)", x.add(9, 20), 3);
        isTable(x, "1:1 2:17 3:9 4:3 5:12 6:4");
        due("valueOf(9)", x.valueOf(9), 20);
        refused("add(9, 1)", () -> x.add(9, 1));
        illegal("add(9, 1000)", () -> x.add(9, 1000));
        illegal("add(-1, 1)", () -> x.add(-1, 1));
        illegal("add(10000, 1)", () -> x.add(10000, 1));
        illegal("add(8, -1)", () -> x.add(8, -1));
        illegal("add(least, 1)", () -> x.add(Integer.MIN_VALUE, 1));
        illegal("add(8, greatest)", () -> x.add(8, Integer.MAX_VALUE));
        due("undoCount()", x.undoCount(), 1);
        due("add(0, 0)", x.add(0, 0), 0);
        // 9999 is 29 modulo 997, so its home is 5, and only bucket 7 is free.
        due("add(9999, 999)", x.add(9999, 999), 7);
        NeighbourHash full = after(FULL_8);
        due("add(8, 0) to a full table", full.add(8, 0), 8);
        due("bucketCount()", full.bucketCount(), 16);
        NeighbourHash stuck = after(STUCK);
        refused("add(1999, 0)", () -> stuck.add(1999, 0));
        isTable(stuck, "5:5 6:1002");
        due("settings", settings(stuck), "8 2 1 false");
        due("counters", counters(stuck), "0 0 0 2 0");
        due("undoCount()", stuck.undoCount(), 1);
        NeighbourHash full64 = after(FULL_64);
        refused("add(64, 0)", () -> full64.add(64, 0));
        due("displaced in wrap", after("table 8 2 1;add 7 1;add 0 2;add 15 3;").bucketOf(15), 0);
        isTable(after("table 8 2 1;add 1 1;add 2 2;add 9 3;"), "1:1 2:9 3:2");
        // Without a place the table grows: in the order of the buckets, not of the adding.
        isTable(after("table 8 3 1;add 9 1;add 1 2;remove 9;add 17 3;grow;"), "1:17 2:1");
        // With 16 buckets there is a place for each entry, but not for the new one.
        isTable(after("table 8 2 1;add 1 1;add 17 2;add 33 3;"), "1:1 2:33 17:17");

        promise = 6;
        NeighbourHash y = new NeighbourHash();
        due("put(1, 999)", y.put(1, 999), 10);
        due("valueOf(1)", y.valueOf(1), 999);
        due("put(1, 0)", y.put(1, 0), 999);
        due("put(0, 7)", y.put(0, 7), -1);
        due("valueOf(0)", y.valueOf(0), 7);
        due("addedCount()", y.addedCount(), 7);
        due("undoCount()", y.undoCount(), 3);
        illegal("put(1, 1000)", () -> y.put(1, 1000));
        illegal("put(1, -1)", () -> y.put(1, -1));
        illegal("put(-1, 1)", () -> y.put(-1, 1));
        illegal("put(10000, 1)", () -> y.put(10000, 1));
        NeighbourHash tight = after(STUCK);
        refused("put(1999, 0)", () -> tight.put(1999, 0));
        due("put(5, 8)", tight.put(5, 8), 1);
        due("settings", settings(tight), "8 2 1 false");
    }

    private static void rows() {
        promise = 7;
        NeighbourHash x = new NeighbourHash();
        due("addRow(0, 1, 5)", x.addRow(0, 1, 5), 2);
        due("entryCount()", x.entryCount(), 7);
        due("valueOf(2)", x.valueOf(2), 0);
        due("valueOf(3)", x.valueOf(3), 12);
        due("addRow(0, 1, 5) again", x.addRow(0, 1, 5), 0);
        due("undoCount()", x.undoCount(), 2);
        due("addRow(9999, 999, 1)", x.addRow(9999, 999, 1), 1);
        due("addRow(9980, 1, 20)", x.addRow(9980, 1, 20), 19);
        illegal("addRow(9980, 1, 21)", () -> x.addRow(9980, 1, 21));
        illegal("addRow(9981, 1, 20)", () -> x.addRow(9981, 1, 20));
        illegal("addRow(0, 1, 0)", () -> x.addRow(0, 1, 0));
        illegal("addRow(0, 1, 21)", () -> x.addRow(0, 1, 21));
        illegal("addRow(0, 0, 1)", () -> x.addRow(0, 0, 1));
        illegal("addRow(0, 1000, 1)", () -> x.addRow(0, 1000, 1));
        illegal("addRow(-1, 1, 1)", () -> x.addRow(-1, 1, 1));
        illegal("addRow(10000, 1, 1)", () -> x.addRow(10000, 1, 1));
        illegal("addRow(0, greatest, 3)", () -> x.addRow(0, Integer.MAX_VALUE, 3));
        illegal("addRow(0, 1, greatest)", () -> x.addRow(0, 1, Integer.MAX_VALUE));
        NeighbourHash stuck = after(STUCK);
        refused("addRow(1998, 1, 2)", () -> stuck.addRow(1998, 1, 2));
        isTable(stuck, "5:5 6:1002");
        due("counters", counters(stuck), "0 0 0 2 0");
        due("undoCount()", stuck.undoCount(), 1);
        due("addRow(1002, 997, 1)", stuck.addRow(1002, 997, 1), 0);
    }

    private static void removing() {
        promise = 8;
        NeighbourHash x = new NeighbourHash();
        due("remove(17)", x.remove(17), 13);
        isTable(x, "1:1 3:3 4:4 5:12");
        missing("remove(17)", () -> x.remove(17));
        missing("remove(-1)", () -> x.remove(-1));
        missing("remove(10000)", () -> x.remove(10000));
        missing("remove(greatest)", () -> x.remove(Integer.MAX_VALUE));
        missing("remove(least)", () -> x.remove(Integer.MIN_VALUE));
        due("undoCount()", x.undoCount(), 1);
        NeighbourHash chain = after("table 8 3 1;add 1 1;add 9 2;add 2 3;pull;remove 1;");
        isTable(chain, "1:9 2:2");
        due("pulls()", chain.pulls(), 2);
        isTable(after("table 8 3 1;add 1 1;add 9 2;add 2 3;remove 1;"), "2:9 3:2");
        // Of one home the entry at the greatest distance is pulled, of the homes the one farthest before goes first.
        isTable(after("table 8 3 1;add 1 1;add 9 2;add 17 3;pull;remove 1;"), "1:17 2:9");
        isTable(after("table 8 3 1;add 1 1;add 2 2;add 9 3;add 10 4;pull;remove 2;"), "1:1 2:9 3:10");
        isTable(after("table 8 3 1;add 7 1;add 15 2;add 23 3;pull;remove 7;"), "0:15 7:23");
    }

    private static void settingsChanged() {
        promise = 9;
        NeighbourHash x = new NeighbourHash();
        due("setNeighbourhood(2)", x.setNeighbourhood(2), 8);
        due("neighbourhood()", x.neighbourhood(), 2);
        due("setNeighbourhood(6)", x.setNeighbourhood(6), 8);
        illegal("setNeighbourhood(1)", () -> x.setNeighbourhood(1));
        illegal("setNeighbourhood(7)", () -> x.setNeighbourhood(7));
        illegal("setNeighbourhood(least)", () -> x.setNeighbourhood(Integer.MIN_VALUE));
        due("undoCount()", x.undoCount(), 2);
        // Built anew in the order of the buckets: 15 lies in bucket 0 before and gets its home.
        NeighbourHash turned = after("table 8 3 1;add 7 1;add 15 2;");
        isTable(turned, "0:15 7:7");
        due("setNeighbourhood(3)", turned.setNeighbourhood(3), 8);
        isTable(turned, "0:7 7:15");
        NeighbourHash wider = after("table 8 3 1;add 1 1;add 9 2;add 17 3;");
        due("setNeighbourhood(2)", wider.setNeighbourhood(2), 16);
        isTable(wider, "1:1 2:17 9:9");
        NeighbourHash stuck = after("table 8 3 1;add 5 1;add 1002 2;add 1999 3;");
        refused("setNeighbourhood(2)", () -> stuck.setNeighbourhood(2));
        due("settings", settings(stuck), "8 3 1 false");
        isTable(stuck, "5:5 6:1002 7:1999");
        due("undoCount()", stuck.undoCount(), 1);

        promise = 10;
        NeighbourHash y = new NeighbourHash();
        due("setMultiplier(2)", y.setMultiplier(2), 8);
        due("multiplier()", y.multiplier(), 2);
        due("homeOf(3)", y.homeOf(3), 6);
        due("setMultiplier(1)", y.setMultiplier(1), 8);
        due("setMultiplier(99)", y.setMultiplier(99), 8);
        illegal("setMultiplier(0)", () -> y.setMultiplier(0));
        illegal("setMultiplier(100)", () -> y.setMultiplier(100));
        illegal("setMultiplier(greatest)", () -> y.setMultiplier(Integer.MAX_VALUE));
        due("undoCount()", y.undoCount(), 3);
        NeighbourHash tight = after(STUCK_BY_TIMES);
        refused("setMultiplier(2)", () -> tight.setMultiplier(2));
        due("settings", settings(tight), "64 2 1 false");
        isTable(tight, "21:533 53:501 54:565");
        // With the multiplier 8 all homes of 8 buckets are 0 and those of 16 are 0 or 8.
        NeighbourHash wide = after("table 8 2 1;add 1 1;add 2 2;add 3 3;");
        due("setMultiplier(8)", wide.setMultiplier(8), 16);
        isTable(wide, "0:2 8:1 9:3");

        promise = 11;
        NeighbourHash z = new NeighbourHash();
        due("setPulling(true)", z.setPulling(true), true);
        due("setPulling(false)", z.setPulling(false), true);
        due("setPulling(false)", z.setPulling(false), false);
        due("isPulling()", z.isPulling(), false);
        due("undoCount()", z.undoCount(), 3);
        due("undo()", z.undo(), 2);
        due("undo()", z.undo(), 1);
        due("isPulling()", z.isPulling(), true);
    }

    private static void growing() {
        promise = 12;
        NeighbourHash x = new NeighbourHash();
        due("grow()", x.grow(), 16);
        isTable(x, "1:1 2:17 3:3 4:4 12:12");
        due("grow()", x.grow(), 32);
        due("grow()", x.grow(), 64);
        isTable(x, "1:1 3:3 4:4 12:12 17:17");
        refused("grow()", x::grow);
        due("bucketCount()", x.bucketCount(), 64);
        due("undoCount()", x.undoCount(), 3);
        refused("grow() of a full table", after(FULL_64)::grow);

        promise = 13;
        NeighbourHash y = new NeighbourHash();
        due("clear()", y.clear(), 5);
        isTable(y, "");
        due("settings", settings(y), "8 3 1 true");
        due("counters", counters(y), "0 3 0 6 6");
        due("hopBits(1)", y.hopBits(1), 0);
        due("clear()", y.clear(), 0);
        due("undoCount()", y.undoCount(), 2);
        NeighbourHash z = after("table 16 3 1;add 1 1;");
        due("clear()", z.clear(), 1);
        due("bucketCount()", z.bucketCount(), 16);
    }

    private static void undoing() {
        promise = 14;
        NeighbourHash x = new NeighbourHash();
        for (int i = 1; i <= 9; i++) {
            x.put(1, 100 + i);
        }
        x.writeTable();
        feed(x, "odd");
        x.runScript();
        x.append(0, 0, 0, 0, 0);
        for (int left = 7; left >= 0; left--) {
            due("undo()", x.undo(), left);
            due("valueOf(1)", x.valueOf(1), 101 + left);
        }
        due("undo()", x.undo(), -1);
        due("valueOf(1)", x.valueOf(1), 101);
        due("the script error stays", x.scriptErrorKind() + " " + x.scriptErrorOffset(), "1 0");
        due("the report stays", x.reportByte(0), (int) '.');
        due("the input stays", x.truncateInput(20), 20);
        NeighbourHash y = new NeighbourHash();
        y.add(9, 1);
        y.remove(1);
        y.addRow(100, 1, 3);
        y.setNeighbourhood(6);
        y.setMultiplier(7);
        y.setPulling(false);
        y.grow();
        y.clear();
        for (int i = 0; i < 8; i++) {
            y.undo();
        }
        isTable(y, NEW);
        due("settings", settings(y), "8 3 1 true");
        due("counters", counters(y), "1 3 0 6 1");

        promise = 15;
        NeighbourHash z = new NeighbourHash();
        for (int i = 1; i <= 10; i++) {
            z.clear();
            due("undoCount()", z.undoCount(), Math.min(i, 8));
        }
        z.undo();
        due("undoCount()", z.undoCount(), 7);
        illegal("add(-1, 0)", () -> z.add(-1, 0));
        missing("remove(1)", () -> z.remove(1));
        due("undoCount()", z.undoCount(), 7);
        z.clear();
        due("undoCount()", z.undoCount(), 8);
        // A failing call in a full history must not cost the oldest state.
        NeighbourHash w = after(STUCK);
        for (int i = 0; i < 8; i++) {
            w.put(5, i);
        }
        refused("add(1999, 0)", () -> w.add(1999, 0));
        for (int i = 7; i >= 0; i--) {
            due("undo()", w.undo(), i);
        }
        due("valueOf(5)", w.valueOf(5), 1);
    }

    private static void snapshots() {
        promise = 16;
        NeighbourHash x = new NeighbourHash();
        x.setPulling(false);
        due("saveSnapshot()", x.saveSnapshot(), 5);
        due("undoCount()", x.undoCount(), 1);
        x.clear();
        due("saveSnapshot()", x.saveSnapshot(), 0);
        x.undo();
        due("restoreSnapshot()", x.restoreSnapshot(), 0);

        promise = 17;
        NeighbourHash y = new NeighbourHash();
        missing("restoreSnapshot()", y::restoreSnapshot);
        y.saveSnapshot();
        y.grow();
        y.setMultiplier(5);
        y.setNeighbourhood(6);
        y.setPulling(false);
        y.remove(1);
        due("restoreSnapshot()", y.restoreSnapshot(), 5);
        isTable(y, NEW);
        due("settings", settings(y), "8 3 1 true");
        due("counters", counters(y), "1 3 0 6 1");
        due("undoCount()", y.undoCount(), 0);
        due("undo()", y.undo(), -1);
        y.clear();
        due("undoCount()", y.undoCount(), 1);
        due("restoreSnapshot() again", y.restoreSnapshot(), 5);
        y.clear();
        y.undo();
        due("entryCount()", y.entryCount(), 5);

        promise = 18;
        NeighbourHash z = new NeighbourHash();
        feed(z, "table 8 3 0;");
        z.runScript();
        due("scriptErrorKind()", z.scriptErrorKind(), 2);
        promise = 19;
        due("scriptErrorOffset()", z.scriptErrorOffset(), 10);
        z.clear();
        due("scriptErrorOffset()", z.scriptErrorOffset(), 10);
        feed(z, "table 8 3 1;");
        due("runScript()", z.runScript(), 0);
        due("scriptErrorOffset()", z.scriptErrorOffset(), -1);
        promise = 18;
        due("scriptErrorKind()", z.scriptErrorKind(), 0);
    }

    private static void buckets() {
        NeighbourHash x = after("table 16 4 3;add 5 50;add 10 60;pull;");
        promise = 20;
        due("bucketCount()", x.bucketCount(), 16);
        promise = 21;
        due("entryCount()", x.entryCount(), 2);
        promise = 22;
        due("neighbourhood()", x.neighbourhood(), 4);
        promise = 23;
        due("multiplier()", x.multiplier(), 3);
        promise = 24;
        due("isPulling()", x.isPulling(), true);
        NeighbourHash y = new NeighbourHash();
        promise = 25;
        due("keyAt", y.keyAt(0) + " " + y.keyAt(2) + " " + y.keyAt(7), "-1 17 -1");
        outside("keyAt(-1)", () -> y.keyAt(-1));
        outside("keyAt(8)", () -> y.keyAt(8));
        outside("keyAt(least)", () -> y.keyAt(Integer.MIN_VALUE));
        due("keyAt(15)", x.keyAt(15), 5);
        outside("keyAt(16)", () -> x.keyAt(16));
        promise = 26;
        due("valueAt", y.valueAt(0) + " " + y.valueAt(2) + " " + y.valueAt(7), "-1 13 -1");
        outside("valueAt(-1)", () -> y.valueAt(-1));
        outside("valueAt(8)", () -> y.valueAt(8));
        promise = 27;
        due("hopBits", y.hopBits(0) + " " + y.hopBits(1) + " " + y.hopBits(3) + " " + y.hopBits(4) + " " + y.hopBits(7), "0 3 1 3 0");
        due("hopBits of a displaced entry", after("table 8 2 1;add 1 1;add 2 2;add 9 3;").hopBits(2), 2);
        due("hopBits over the end", after("table 8 3 1;add 7 1;add 15 2;add 23 3;").hopBits(7), 7);
        outside("hopBits(-1)", () -> y.hopBits(-1));
        outside("hopBits(8)", () -> y.hopBits(8));
        promise = 28;
        due("entriesOf", y.entriesOf(0) + " " + y.entriesOf(1) + " " + y.entriesOf(3), "0 2 1");
        outside("entriesOf(-1)", () -> y.entriesOf(-1));
        outside("entriesOf(8)", () -> y.entriesOf(8));
        promise = 29;
        due("freeDistance", y.freeDistance(0) + " " + y.freeDistance(1) + " " + y.freeDistance(5) + " " + y.freeDistance(7), "0 5 1 0");
        due("freeDistance over the end", after("table 8 3 1;add 7 1;add 0 2;").freeDistance(7), 2);
        due("freeDistance in a full table", after(FULL_8).freeDistance(3), -1);
        outside("freeDistance(-1)", () -> y.freeDistance(-1));
        outside("freeDistance(8)", () -> y.freeDistance(8));
        promise = 30;
        due("longestRun()", y.longestRun(), 5);
        due("longestRun() without entries", after("table 8 3 1;").longestRun(), 0);
        due("longestRun() of a full table", after(FULL_8).longestRun(), 8);
        due("longestRun() over the end", after("table 8 3 1;add 6 1;add 7 1;add 0 1;add 2 1;add 3 1;").longestRun(), 3);
        promise = 31;
        due("fullestHome()", y.fullestHome(), 1);
        due("fullestHome() without entries", after("table 8 3 1;").fullestHome(), -1);
        due("fullestHome() of the last", after("table 8 3 1;add 1 1;add 7 1;add 15 1;").fullestHome(), 7);
    }

    private static void entries() {
        NeighbourHash x = new NeighbourHash();
        promise = 32;
        // 1000 is 3 modulo 997, 9999 is 29.
        due("homeOf", x.homeOf(0) + " " + x.homeOf(9) + " " + x.homeOf(997) + " " + x.homeOf(1000) + " " + x.homeOf(9999), "0 1 0 3 5");
        due("homeOf(9999)", after("table 64 3 99;").homeOf(9999), 9999 * 99 % 997 % 64);
        illegal("homeOf(-1)", () -> x.homeOf(-1));
        illegal("homeOf(10000)", () -> x.homeOf(10000));
        promise = 33;
        due("bucketOf", x.bucketOf(17) + " " + x.bucketOf(12) + " " + x.bucketOf(9) + " " + x.bucketOf(9999), "2 5 -1 -1");
        illegal("bucketOf(-1)", () -> x.bucketOf(-1));
        illegal("bucketOf(10000)", () -> x.bucketOf(10000));
        promise = 34;
        due("valueOf", x.valueOf(17) + " " + x.valueOf(12) + " " + x.valueOf(9), "13 15 -1");
        illegal("valueOf(-1)", () -> x.valueOf(-1));
        illegal("valueOf(10000)", () -> x.valueOf(10000));
        promise = 35;
        NeighbourHash round = after("table 8 3 1;add 7 1;add 15 2;add 23 3;");
        due("distanceOf", x.distanceOf(17) + " " + x.distanceOf(1) + " " + x.distanceOf(9), "1 0 -1");
        due("distanceOf(23)", round.distanceOf(23), 2);
        illegal("distanceOf(-1)", () -> x.distanceOf(-1));
        illegal("distanceOf(10000)", () -> x.distanceOf(10000));
        promise = 36;
        due("looksFor", x.looksFor(1) + " " + x.looksFor(17) + " " + x.looksFor(9) + " " + x.looksFor(0), "1 2 2 0");
        due("looksFor over the end", round.looksFor(23) + " " + round.looksFor(31), "3 3");
        due("looksFor without the first", after("table 8 3 1;add 1 1;add 9 2;add 17 3;remove 9;").looksFor(17), 2);
        illegal("looksFor(-1)", () -> x.looksFor(-1));
        illegal("looksFor(10000)", () -> x.looksFor(10000));
        promise = 37;
        due("longestDistance()", x.longestDistance(), 1);
        due("longestDistance()", round.longestDistance(), 2);
        due("longestDistance() without entries", after("table 8 3 1;").longestDistance(), 0);
        promise = 38;
        due("sumOfDistances()", x.sumOfDistances(), 2);
        due("sumOfDistances()", round.sumOfDistances(), 3);
        due("sumOfDistances() without entries", after("table 8 3 1;").sumOfDistances(), 0);
        promise = 39;
        due("rank", x.rank(0) + " " + x.rank(1) + " " + x.rank(4) + " " + x.rank(13) + " " + x.rank(9999), "0 0 2 4 5");
        illegal("rank(-1)", () -> x.rank(-1));
        illegal("rank(10000)", () -> x.rank(10000));
    }

    private static void predictions() {
        NeighbourHash x = new NeighbourHash();
        NeighbourHash full = after(FULL_8);
        NeighbourHash stuck = after(STUCK);
        promise = 40;
        due("whyNoAdd", x.whyNoAdd(1) + " " + x.whyNoAdd(9) + " " + full.whyNoAdd(8) + " " + stuck.whyNoAdd(1999) + " " + stuck.whyNoAdd(5), "1 0 0 2 1");
        illegal("whyNoAdd(-1)", () -> x.whyNoAdd(-1));
        illegal("whyNoAdd(10000)", () -> x.whyNoAdd(10000));
        promise = 41;
        due("placeFor", x.placeFor(1) + " " + x.placeFor(9) + " " + full.placeFor(8) + " " + stuck.placeFor(1999), "-1 3 8 -1");
        illegal("placeFor(-1)", () -> x.placeFor(-1));
        illegal("placeFor(10000)", () -> x.placeFor(10000));
        promise = 42;
        due("movesFor", x.movesFor(1) + " " + x.movesFor(9) + " " + x.movesFor(0) + " " + full.movesFor(8) + " " + stuck.movesFor(1999), "-1 2 0 0 -1");
        // An entry is displaced for 33, but only in the table that has grown.
        NeighbourHash grown = after("table 8 2 1;add 1 1;add 2 2;add 17 3;");
        due("movesFor(33)", grown.movesFor(33), 0);
        due("add(33, 4)", grown.add(33, 4), 2);
        due("moves()", grown.moves(), 1);
        due("growths()", grown.growths(), 2);
        illegal("movesFor(-1)", () -> x.movesFor(-1));
        illegal("movesFor(10000)", () -> x.movesFor(10000));
        promise = 43;
        due("bucketsAfter", x.bucketsAfter(1) + " " + x.bucketsAfter(9) + " " + full.bucketsAfter(8) + " " + stuck.bucketsAfter(1999), "-1 8 16 -1");
        due("bucketsAfter(33)", after("table 8 2 1;add 1 1;add 17 2;").bucketsAfter(33), 32);
        illegal("bucketsAfter(-1)", () -> x.bucketsAfter(-1));
        illegal("bucketsAfter(10000)", () -> x.bucketsAfter(10000));
        promise = 44;
        due("pullsFor", x.pullsFor(1) + " " + x.pullsFor(3) + " " + x.pullsFor(9), "1 0 -1");
        due("pullsFor(1)", after("table 8 3 1;add 1 1;add 9 2;add 2 3;pull;").pullsFor(1), 2);
        due("pullsFor(1) without pulling", after("table 8 3 1;add 1 1;add 9 2;add 2 3;").pullsFor(1), 0);
        illegal("pullsFor(-1)", () -> x.pullsFor(-1));
        illegal("pullsFor(10000)", () -> x.pullsFor(10000));
        promise = 45;
        due("bucketsWith", x.bucketsWith(2) + " " + x.bucketsWith(6) + " " + stuck.bucketsWith(2), "8 8 8");
        NeighbourHash three = after("table 8 3 1;add 5 1;add 1002 2;add 1999 3;");
        due("bucketsWith(2)", three.bucketsWith(2), -1);
        due("bucketsWith(2)", after("table 8 3 1;add 1 1;add 9 2;add 17 3;").bucketsWith(2), 16);
        illegal("bucketsWith(1)", () -> x.bucketsWith(1));
        illegal("bucketsWith(7)", () -> x.bucketsWith(7));
        promise = 46;
        NeighbourHash times = after("table 64 2 2;add 501 1;add 565 2;add 53 3;");
        due("bestMultiplier", times.bestMultiplier(1) + " " + times.bestMultiplier(2), "-1 2");
        // With 1 the homes are 1, 1 and 2 and the sum is 2; with 2 they are 2, 2 and 4 and the sum is 1.
        NeighbourHash two = after("table 16 3 1;add 1 1;add 17 2;add 2 3;");
        due("bestMultiplier(1)", two.bestMultiplier(1), 1);
        due("bestMultiplier(2)", two.bestMultiplier(2), 2);
        due("bestMultiplier without entries", after("table 8 3 9;").bestMultiplier(30), 1);
        illegal("bestMultiplier(0)", () -> x.bestMultiplier(0));
        illegal("bestMultiplier(31)", () -> x.bestMultiplier(31));
        due("nothing has changed", places(x) + ", " + counters(x) + ", " + settings(x) + ", " + x.undoCount(), NEW + ", 1 3 0 6 1, 8 3 1 true, 0");
    }

    private static void accounts() {
        promise = 47;
        NeighbourHash x = new NeighbourHash();
        due("moves()", x.moves(), 1);
        x.add(9, 1);
        due("moves()", x.moves(), 3);
        x.remove(9);
        due("moves()", x.moves(), 3);
        x.clear();
        due("moves() after clear()", x.moves(), 0);
        due("moves() of a building", after("table 8 2 1;add 1 1;add 2 2;add 9 3;grow;").moves(), 0);
        // With H 3 the key 9 lies in bucket 3; with H 2 it displaces 2.
        NeighbourHash built = after("table 8 3 1;add 1 1;add 2 2;add 9 3;near 2;");
        isTable(built, "1:1 2:9 3:2");
        due("moves() for the building", built.moves(), 1);
        promise = 48;
        NeighbourHash y = new NeighbourHash();
        y.remove(1);
        due("pulls()", y.pulls(), 4);
        y.clear();
        due("pulls()", y.pulls(), 4);
        promise = 49;
        due("growths() at once", after("table 8 2 1;add 1 1;add 17 2;add 33 3;").growths(), 2);
        due("growths() of near", after("table 8 3 1;add 1 1;add 9 2;add 17 3;near 2;").growths(), 1);
        due("growths() of grow", after("table 8 3 1;grow;grow;near 4;times 3;clear;").growths(), 2);
        promise = 50;
        NeighbourHash z = new NeighbourHash();
        z.put(1, 1);
        z.put(2, 1);
        z.addRow(1, 1, 5);
        z.grow();
        due("addedCount()", z.addedCount(), 8);
        promise = 51;
        z.remove(5);
        due("removedCount()", z.removedCount(), 2);
        z.clear();
        due("removedCount()", z.removedCount(), 8);
        promise = 52;
        due("meanDistance()", new NeighbourHash().meanDistance(), 0.4);
        due("meanDistance() of thirds", after("table 8 3 1;add 1 1;add 9 1;add 4 1;").meanDistance(), 1.0 / 3.0);
        due("meanDistance() without entries", z.meanDistance(), 0.0);
        promise = 53;
        due("load()", new NeighbourHash().load(), 0.625f);
        due("load() of a full table", after(FULL_64).load(), 1.0f);
        due("load() without entries", z.load(), 0.0f);
        promise = 54;
        for (String script : new String[] {FULL_8, FULL_64, STUCK, STUCK_BY_TIMES, "table 8 2 1;add 1 1;add 2 2;add 9 3;pull;remove 1;"}) {
            due("violations() after " + script, after(script).violations(), 0);
        }
        due("violations()", z.violations(), 0);
    }

    private static void reports() {
        promise = 55;
        NeighbourHash x = new NeighbourHash();
        due("writeTable()", x.writeTable(), 21);
        due("the report", report(x), ". 1 17+1 3 4 12+1 . .");
        due("the report without entries", report(after("table 8 3 1;")), ". . . . . . . .");
        // 9998 is 28 modulo 997, 999 is 2.
        due("long keys", report(after("table 8 3 1;add 9998 1;add 0 2;add 999 3;add 10 4;")), "0 . 999 10+1 9998 . . .");
        due("the greatest distance", report(after("table 8 6 1;add 0 1;row 8 8 5;")), "0 8+1 16+2 24+3 32+4 40+5 . .");
        promise = 56;
        due("reportByte", x.reportByte(0) + " " + x.reportByte(2) + " " + x.reportByte(6) + " " + x.reportByte(20), "46 49 43 46");
        due("no such byte", x.reportByte(21) + " " + x.reportByte(-1) + " " + x.reportByte(Integer.MAX_VALUE) + " " + x.reportByte(Integer.MIN_VALUE), "-1 -1 -1 -1");
        x.clear();
        due("the report stays", x.reportByte(2), 49);
        due("writeTable()", x.writeTable(), 15);
        due("the previous report is gone", x.reportByte(15), -1);
        due("reportByte(14)", x.reportByte(14), 46);
    }

    public static void main(String[] args) {
        newObject();
        input();
        goodScripts();
        scriptErrors();
        adding();
        rows();
        removing();
        settingsChanged();
        growing();
        undoing();
        snapshots();
        buckets();
        entries();
        predictions();
        accounts();
        reports();
        System.out.println(wrong == 0 ? "all answers are as due" : wrong + " answers are not as due");
        if (wrong != 0) {
            System.exit(1);
        }
    }
}
