/** Boundary cases of the Terms: the table, finding a place and removing. */
final class TableCases {
    private static final String NUMBERED = "It has 8, 16, 32 or 64 buckets, numbered from 0";
    private static final String BEHIND = "the bucket behind the last one is bucket 0 again.";
    private static final String RANGES = "A bucket is free or has an entry: a key (0 to 9999) and a value (0 to 999)";
    private static final String NO_TWINS = "no two entries have the same key.";
    private static final String HOME = "The home of a key is the bucket whose number is the remainder of"
        + " (the key times the multiplier, modulo 997) divided by the number of buckets";
    private static final String MULTIPLIERS = "the multiplier is 1 to 99.";
    private static final String DISTANCE = "The distance of a bucket from another one is the number of steps forwards from the other one to it.";
    private static final String LESS_THAN_H = "The neighbourhood is a number H from 2 to 6:"
        + " each entry lies in a bucket whose distance from its home is less than H.";
    private static final String BITS = "Bit i of the hop bits of a bucket is set if the bucket at the distance i from it has an entry whose home it is.";

    private static final String NEAREST_FREE = "To find a place for a new key, the free bucket at the smallest distance from its home is taken.";
    private static final String H_OR_MORE = "As long as its distance from the home is H or more, an entry is displaced:"
        + " the buckets at the distances H-1, H-2 and so on down to 1 before the free bucket are considered in this order";
    private static final String IN_FRONT = "the first of them is taken that is the home of an entry in front of the free bucket"
        + " (at a smaller distance from it than that of the free bucket), and of its entries the one at the smallest distance from it";
    private static final String MOVES_ON = "this entry moves to the free bucket, and the bucket where it was is the free bucket then.";
    private static final String NO_SUCH_ENTRY = "If there is no such entry, or no bucket was free at first, there is no place, and the table is as it was before.";

    private static final String FREED = "When an entry is removed, its bucket is free.";
    private static final String PULL_ORDER = "If pulling is on, the buckets at the distances H-1, H-2 and so on down to 0 before the free bucket"
        + " are considered in this order";
    private static final String IS_BEHIND = "the first of them is taken that is the home of an entry behind the free bucket"
        + " (at a greater distance from it than that of the free bucket), and of its entries the one at the greatest distance from it";
    private static final String PULLED_AGAIN = "this entry is pulled into the free bucket, and the bucket where it was is the free bucket then,"
        + " for which the same is done again, until there is no such entry.";

    /** Each bucket of 8 has an entry whose home lies two before it. */
    private static final String ALL_TWO_AWAY = "table 8 6 1;row 0 1 8;remove 0;add 14 1;remove 1;add 15 1;remove 2;add 8 1;remove 3;add 9 1;"
        + "remove 4;add 10 1;remove 5;add 11 1;remove 6;add 12 1;remove 7;add 13 1;";

    private TableCases() {
    }

    static void list() {
        numbers();
        overTheEnd();
        overTheEndAsked();
        keysAndValues();
        homes();
        neighbourhoods();
        hopBits();
        nearestFree();
        whenDisplaced();
        whichIsDisplaced();
        noPlace();
        removing();
    }

    private static void numbers() {
        for (int n : Boundary.SIZES) {
            String empty = "table " + n + " 3 1;";
            Boundary.test(20, NUMBERED, n + " buckets", () -> Boundary.due(Boundary.after(empty).bucketCount(), n));
            Boundary.test(4, NUMBERED, n + " buckets", () -> Boundary.due(Boundary.after(empty).entryCount(), 0));
            String ends = empty + "add 0 5;add " + (n - 1) + " 6;";
            Boundary.test(25, NUMBERED, "the first and the last of " + n, () -> {
                NeighbourHash x = Boundary.after(ends);
                Boundary.due(x.keyAt(0) + " " + x.keyAt(n - 1), "0 " + (n - 1));
            });
            Boundary.test(26, NUMBERED, "the first and the last of " + n, () -> {
                NeighbourHash x = Boundary.after(ends);
                Boundary.due(x.valueAt(0) + " " + x.valueAt(n - 1), "5 6");
            });
            Boundary.test(27, NUMBERED, "the first and the last of " + n, () -> {
                NeighbourHash x = Boundary.after(ends);
                Boundary.due(x.hopBits(0) + " " + x.hopBits(n - 1), "1 1");
            });
            Boundary.test(28, NUMBERED, "the first and the last of " + n, () -> {
                NeighbourHash x = Boundary.after(ends);
                Boundary.due(x.entriesOf(0) + " " + x.entriesOf(n - 1), "1 1");
            });
            Boundary.test(29, NUMBERED, "the first and the last of " + n, () -> {
                NeighbourHash x = Boundary.after(ends);
                Boundary.due(x.freeDistance(0) + " " + x.freeDistance(n - 1), "1 2");
            });
            Boundary.test(32, NUMBERED, "the first and the last of " + n, () -> {
                NeighbourHash x = Boundary.after(ends);
                Boundary.due(x.homeOf(n - 1) + " " + x.homeOf(n), n - 1 + " 0");
            });
        }
        Boundary.test(4, NUMBERED, "other numbers of buckets", () -> {
            for (int n : new int[] {0, 1, 2, 4, 7, 9, 15, 17, 24, 31, 33, 48, 63, 65, 128, 256, 9999}) {
                ScriptCases.error(2, "table ^" + n + " 3 1;");
            }
        });
    }

    private static void overTheEnd() {
        for (int n : Boundary.SIZES) {
            Ways.placing(BEHIND, "the home of the key is the last of " + n + " and taken", "table " + n + " 2 1;add " + (n - 1) + " 1;",
                2 * n - 1, 0, n, 0, 0, "0:" + (2 * n - 1) + " " + (n - 1) + ":" + (n - 1));
        }
        Ways.placing(BEHIND, "an entry of bucket 0 is displaced for a key of the last bucket", "table 8 2 1;add 7 1;add 0 1;",
            15, 0, 8, 1, 1, "0:15 1:0 7:7");
        Ways.placing(BEHIND, "an entry is displaced out of the last bucket into bucket 0", "table 8 2 1;add 6 1;add 7 1;",
            14, 7, 8, 1, 1, "0:7 6:6 7:14");
        Ways.placing(BEHIND, "the home of the displaced entry lies at the other end", "table 8 3 1;add 6 1;add 7 1;add 15 1;",
            14, 7, 8, 1, 1, "0:15 1:7 6:6 7:14");
        Ways.removing(BEHIND, "pulled from bucket 1 into the last", Boundary.ROUND + "pull;", 7, 1, "0:15 7:23");
        Ways.removing(BEHIND, "pulled into bucket 0, the home at the other end", Boundary.ROUND + "pull;", 15, 1, "0:23 7:7");
        Ways.nearing(BEHIND, "built anew", Boundary.ROUND, 6, 8, 0, 0, "0:23 1:7 7:15");
        Ways.timing(BEHIND, "built anew", Boundary.ROUND, 1, 8, 0, 0, "0:23 1:7 7:15");
        Ways.doubling(BEHIND, "built anew", "table 8 3 1;add 15 1;add 31 2;add 47 3;", 16, 1, 0, "0:47 1:15 15:31");
    }

    private static void overTheEndAsked() {
        Boundary.test(27, BEHIND, "the home is the last bucket", () -> Boundary.due(Boundary.after(Boundary.ROUND).hopBits(7), 7));
        Boundary.test(28, BEHIND, "the home is the last bucket", () -> Boundary.due(Boundary.after(Boundary.ROUND).entriesOf(7), 3));
        Boundary.test(29, BEHIND, "the next free one is behind bucket 0", () -> Boundary.due(Boundary.after(Boundary.ROUND).freeDistance(7), 3));
        Boundary.test(31, BEHIND, "the home is the last bucket", () ->
            Boundary.due(Boundary.after(Boundary.ROUND + "row 3 8 2;").fullestHome(), 7));
        Boundary.test(33, BEHIND, "the home is the last bucket", () -> Boundary.due(Boundary.after(Boundary.ROUND).bucketOf(23), 1));
        Boundary.test(34, BEHIND, "the home is the last bucket", () -> Boundary.due(Boundary.after(Boundary.ROUND).valueOf(23), 3));
        Boundary.test(35, BEHIND, "the home is the last bucket", () -> Boundary.due(Boundary.after(Boundary.ROUND).distanceOf(23), 2));
        Boundary.test(36, BEHIND, "the home is the last bucket", () -> {
            NeighbourHash x = Boundary.after(Boundary.ROUND);
            Boundary.due(x.looksFor(15) + " " + x.looksFor(23) + " " + x.looksFor(31), "2 3 3");
        });
        Boundary.test(37, BEHIND, "the home is the last bucket", () -> Boundary.due(Boundary.after(Boundary.ROUND).longestDistance(), 2));
        Boundary.test(38, BEHIND, "the home is the last bucket", () -> Boundary.due(Boundary.after(Boundary.ROUND).sumOfDistances(), 3));
        // With 1 the homes are 15 and 15, with 2 they are 14 and 9.
        Boundary.test(46, BEHIND, "the sum with an entry over the end is greater", () ->
            Boundary.due(Boundary.after("table 16 3 1;add 15 1;add 991 1;").bestMultiplier(2), 2));
        Boundary.test(52, BEHIND, "the home is the last bucket", () -> Boundary.due(Boundary.after(Boundary.ROUND).meanDistance(), 1.0));
        Boundary.test(54, BEHIND, "the home is the last bucket", () -> Boundary.due(Boundary.after(Boundary.ROUND).violations(), 0));
        Boundary.test(55, BEHIND, "the home is the last bucket", () ->
            Boundary.due(Boundary.report(Boundary.after(Boundary.ROUND)), "15+1 23+2 . . . . . 7"));
        for (int n : Boundary.SIZES) {
            String two = "table " + n + " 2 1;add " + (n - 1) + " 1;add " + (2 * n - 1) + " 2;";
            Boundary.test(35, DISTANCE, "forwards from the last of " + n + " to bucket 0", () ->
                Boundary.due(Boundary.after(two).distanceOf(2 * n - 1), 1));
            Boundary.test(29, DISTANCE, "forwards to the bucket in front, of " + n, () -> {
                NeighbourHash x = Boundary.after("table " + n + " 2 1;");
                for (int first = 3; first < n + 2; first += 20) {
                    x.addRow(first, 1, Math.min(20, n + 2 - first));
                }
                Boundary.due(x.freeDistance(3), n - 1);
            });
        }
        Boundary.test(35, DISTANCE, "none from itself", () -> Boundary.due(Boundary.after(Boundary.ROUND).distanceOf(7), 0));
    }

    private static void keysAndValues() {
        Boundary.test(5, RANGES, "the smallest and the greatest", () -> {
            NeighbourHash x = new NeighbourHash();
            Boundary.due(x.add(0, 0), 0);
            // 9999 is 29 modulo 997, its home is 5 and bucket 6 is free.
            Boundary.due(x.add(9999, 999), 6);
            Boundary.due(x.valueOf(0) + " " + x.valueOf(9999), "0 999");
        });
        Boundary.test(6, RANGES, "the smallest and the greatest", () -> {
            NeighbourHash x = new NeighbourHash();
            Boundary.due(x.put(0, 999) + " " + x.put(9999, 0), "-1 -1");
            Boundary.due(x.put(0, 0) + " " + x.put(9999, 999), "999 0");
            Boundary.due(x.valueOf(0) + " " + x.valueOf(9999), "0 999");
        });
        Boundary.test(7, RANGES, "the smallest and the greatest", () -> {
            NeighbourHash x = new NeighbourHash();
            Boundary.due(x.addRow(0, 1, 1) + " " + x.addRow(9999, 1, 1), "1 1");
            Boundary.due(x.valueOf(0) + " " + x.valueOf(9999), "0 0");
        });
        Boundary.test(4, RANGES, "the smallest and the greatest", () -> {
            NeighbourHash x = Boundary.after("table 8 3 1;add 0 999;add 9999 0;put 0 0;put 9999 999;row 1 1 1;remove 0;");
            Boundary.due(x.valueOf(0) + " " + x.valueOf(9999) + " " + x.valueOf(1), "-1 999 0");
        });
        Boundary.test(25, RANGES, "the key 0 is not a free bucket", () -> {
            NeighbourHash x = Boundary.after("table 8 3 1;add 0 0;");
            Boundary.due(x.keyAt(0) + " " + x.keyAt(1), "0 -1");
        });
        Boundary.test(26, RANGES, "the value 0 is not a free bucket", () -> {
            NeighbourHash x = Boundary.after("table 8 3 1;add 0 0;");
            Boundary.due(x.valueAt(0) + " " + x.valueAt(1), "0 -1");
        });
        // Three entries of the home 2, in the buckets 2, 3 and 4.
        String three = "table 8 3 1;add 2 21;add 10 22;add 18 23;";
        Boundary.test(5, NO_TWINS, "the entry lies in its home, next to it or as far as it may", () -> {
            NeighbourHash x = Boundary.after(three);
            Boundary.refused(() -> x.add(2, 1));
            Boundary.refused(() -> x.add(10, 1));
            Boundary.refused(() -> x.add(18, 1));
        });
        Boundary.test(6, NO_TWINS, "the entry lies in its home, next to it or as far as it may", () -> {
            NeighbourHash x = Boundary.after(three);
            Boundary.due(x.put(2, 1) + " " + x.put(10, 2) + " " + x.put(18, 3), "21 22 23");
            Boundary.due(Boundary.places(x), "2:2 3:10 4:18");
        });
        Boundary.test(7, NO_TWINS, "the entry lies in its home, next to it or as far as it may", () -> {
            NeighbourHash x = Boundary.after(three);
            Boundary.due(x.addRow(2, 8, 3), 0);
            Boundary.due(Boundary.places(x), "2:2 3:10 4:18");
        });
        Boundary.test(4, NO_TWINS, "the entry lies as far as it may", () -> {
            ScriptCases.error(3, three + "add 18 1^;");
            Boundary.due(Boundary.after(three + "put 18 1;row 2 8 3;").entryCount(), 3);
        });
        Boundary.test(40, NO_TWINS, "the entry lies as far as it may", () -> Boundary.due(Boundary.after(three).whyNoAdd(18), 1));
        Boundary.test(54, NO_TWINS, "put and row with keys that there are", () ->
            Boundary.due(Boundary.after(three + "put 18 1;put 10 1;row 2 8 3;").violations(), 0));
    }

    private static void home(String script, int key, int home) {
        Boundary.test(32, HOME, "of " + key + " in " + script, () -> Boundary.due(Boundary.after(script).homeOf(key), home));
        Boundary.test(5, HOME, "of " + key + " in " + script, () -> Boundary.due(Boundary.after(script).add(key, 0), home));
    }

    private static void homes() {
        home("table 8 3 1;", 0, 0);
        home("table 8 3 1;", 7, 7);
        home("table 8 3 1;", 8, 0);
        home("table 8 3 1;", 996, 4);
        home("table 8 3 1;", 997, 0);
        home("table 8 3 1;", 998, 1);
        home("table 8 3 1;", 9999, 5);
        home("table 64 3 1;", 63, 63);
        home("table 64 3 1;", 64, 0);
        home("table 64 3 1;", 996, 36);
        home("table 64 3 1;", 9999, 29);
        // 99 times 10 is 990, 99 times 11 is 92 modulo 997, 99 times 9999 is 877 modulo 997.
        home("table 64 3 99;", 10, 30);
        home("table 64 3 99;", 11, 28);
        home("table 64 3 99;", 9999, 45);
        home("table 8 3 99;", 9999, 5);
        home("table 32 3 2;", 499, 1);
        Boundary.test(33, HOME, "after the multiplier has changed", () -> Boundary.due(Boundary.after("table 8 3 1;add 997 1;times 99;").bucketOf(997), 0));
        Boundary.test(4, MULTIPLIERS, "the smallest and the greatest, and beyond them", () -> {
            Boundary.due(Boundary.after("table 8 3 1;times 99;").multiplier(), 99);
            Boundary.due(Boundary.after("table 8 3 99;times 1;").multiplier(), 1);
            ScriptCases.error(2, "table 8 3 ^0;");
            ScriptCases.error(2, "table 8 3 ^100;");
            ScriptCases.error(2, "table 8 3 1;times ^0;");
            ScriptCases.error(2, "table 8 3 1;times ^100;");
        });
        Boundary.test(10, MULTIPLIERS, "the smallest and the greatest, and beyond them", () -> {
            NeighbourHash x = new NeighbourHash();
            x.setMultiplier(99);
            Boundary.due(x.multiplier(), 99);
            Boundary.illegal(() -> x.setMultiplier(100));
            x.setMultiplier(1);
            Boundary.due(x.multiplier(), 1);
            Boundary.illegal(() -> x.setMultiplier(0));
        });
    }

    /** As many entries of the home 5 as the neighbourhood holds. */
    private static String crowd(int near) {
        StringBuilder script = new StringBuilder("table 64 " + near + " 1;");
        for (int i = 0; i < near; i++) {
            script.append("add ").append(5 + 64 * i).append(' ').append(i).append(';');
        }
        return script.toString();
    }

    private static void neighbourhoods() {
        for (int h = 2; h <= 6; h++) {
            int near = h;
            int last = 5 + 64 * (near - 1);
            String crowd = crowd(near);
            Boundary.test(22, LESS_THAN_H, "H is " + near, () -> Boundary.due(Boundary.after(crowd).neighbourhood(), near));
            Boundary.test(35, LESS_THAN_H, "the distance H-1, H is " + near, () -> Boundary.due(Boundary.after(crowd).distanceOf(last), near - 1));
            Boundary.test(33, LESS_THAN_H, "the distance H-1, H is " + near, () -> Boundary.due(Boundary.after(crowd).bucketOf(last), 4 + near));
            Boundary.test(37, LESS_THAN_H, "the distance H-1, H is " + near, () -> Boundary.due(Boundary.after(crowd).longestDistance(), near - 1));
            Boundary.test(54, LESS_THAN_H, "the distance H-1, H is " + near, () -> Boundary.due(Boundary.after(crowd).violations(), 0));
            Boundary.test(36, LESS_THAN_H, "the distance H-1, H is " + near, () -> Boundary.due(Boundary.after(crowd).looksFor(last), near));
            Ways.noPlace(LESS_THAN_H, "the distance H, H is " + near, crowd, 5 + 64 * near);
            Ways.nearing(LESS_THAN_H, "the distance H-1, H is " + near + " again", crowd, near, 64, 0, 0, placesOfCrowd(near));
            if (near > 2) {
                Ways.notNear(LESS_THAN_H, "the distance H, H would be " + (near - 1), crowd, near - 1);
            }
        }
        Boundary.test(4, LESS_THAN_H, "H less than 2 or greater than 6", () -> {
            ScriptCases.error(2, "table 8 ^1 1;");
            ScriptCases.error(2, "table 8 ^7 1;");
            ScriptCases.error(2, "table 8 ^0 1;");
            ScriptCases.error(2, "table 8 3 1;near ^1;");
            ScriptCases.error(2, "table 8 3 1;near ^7;");
        });
    }

    private static String placesOfCrowd(int near) {
        StringBuilder places = new StringBuilder();
        for (int i = 0; i < near; i++) {
            places.append(i == 0 ? "" : " ").append(5 + i).append(':').append(5 + 64 * i);
        }
        return places.toString();
    }

    private static void hopBits() {
        for (int h = 2; h <= 6; h++) {
            int near = h;
            Boundary.test(27, BITS, "all bits that there are, H is " + near, () -> {
                NeighbourHash x = Boundary.after(crowd(near));
                Boundary.due(x.hopBits(5) + " " + x.hopBits(4) + " " + x.hopBits(6), (1 << near) - 1 + " 0 0");
            });
            for (int i = 0; i < near; i++) {
                int bit = i;
                Boundary.test(27, BITS, "without bit " + bit + ", H is " + near, () ->
                    Boundary.due(Boundary.after(crowd(near) + "remove " + (5 + 64 * bit) + ";").hopBits(5), (1 << near) - 1 - (1 << bit)));
            }
        }
        Boundary.test(27, BITS, "an entry of another home lies in between", () -> {
            NeighbourHash x = Boundary.after("table 8 3 1;add 1 1;add 2 1;add 9 1;");
            Boundary.due(x.hopBits(1) + " " + x.hopBits(2) + " " + x.hopBits(3), "5 1 0");
        });
        Boundary.test(27, BITS, "of an entry that was displaced", () -> {
            NeighbourHash x = Boundary.after("table 8 3 1;row 1 1 3;add 9 1;");
            Boundary.due(x.hopBits(1) + " " + x.hopBits(2) + " " + x.hopBits(3) + " " + x.hopBits(4), "3 4 1 0");
        });
        Boundary.test(27, BITS, "of an entry that was pulled", () -> {
            NeighbourHash x = Boundary.after("table 8 3 1;add 1 1;add 9 2;add 2 3;pull;remove 1;");
            Boundary.due(x.hopBits(1) + " " + x.hopBits(2) + " " + x.hopBits(3), "1 1 0");
        });
        Boundary.test(28, BITS, "entries of other homes in between do not count", () -> {
            NeighbourHash x = Boundary.after("table 8 3 1;add 1 1;add 2 1;add 9 1;");
            Boundary.due(x.entriesOf(1) + " " + x.entriesOf(2) + " " + x.entriesOf(3), "2 1 0");
        });
    }

    // ---- finding a place

    private static void nearestFree() {
        Ways.placing(NEAREST_FREE, "its home is free", "table 8 3 1;add 1 1;add 3 1;", 2, 2, 8, 0, 0, "1:1 2:2 3:3");
        Ways.placing(NEAREST_FREE, "the one in front of its home is free, too", "table 8 3 1;add 3 1;", 11, 4, 8, 0, 0, "3:3 4:11");
        Ways.placing(NEAREST_FREE, "two behind it", "table 8 3 1;add 3 1;add 4 1;", 11, 5, 8, 0, 0, "3:3 4:4 5:11");
        Ways.placing(NEAREST_FREE, "a bucket that was freed", "table 8 3 1;add 3 1;add 4 1;add 11 1;remove 4;", 19, 4, 8, 0, 0, "3:3 4:19 5:11");
        Ways.placing(NEAREST_FREE, "at the greatest distance that there is", "table 8 2 1;row 5 1 3;row 0 1 4;", 13, 6, 8, 6, 6,
            "0:7 1:0 2:1 3:2 4:3 5:5 6:13 7:6");
        Ways.placing(NEAREST_FREE, "the last one of 64 that is free",
            "table 64 6 1;row 0 1 20;row 20 1 20;row 40 1 20;row 60 1 3;", 127, 63, 64, 0, 0, range(0, 63) + " 63:127");
    }

    private static String range(int from, int to) {
        StringBuilder places = new StringBuilder();
        for (int b = from; b < to; b++) {
            places.append(b == from ? "" : " ").append(b).append(':').append(b);
        }
        return places.toString();
    }

    private static void whenDisplaced() {
        for (int near = 2; near <= 6; near++) {
            Ways.placing(H_OR_MORE, "the distance H-1, H is " + near, "table 16 " + near + " 1;row 1 1 " + (near - 1) + ";",
                17, near, 16, 0, 0, range(1, near) + " " + near + ":17");
            Ways.placing(H_OR_MORE, "the distance H, H is " + near, "table 16 " + near + " 1;row 1 1 " + near + ";",
                17, 2, 16, 1, 1, "1:1 2:17" + (near > 2 ? " " : "") + range(3, near + 1) + " " + (near + 1) + ":2");
        }
        Ways.placing(H_OR_MORE, "until it is less than H, and no longer", "table 16 3 1;row 1 1 6;", 17, 3, 16, 2, 2,
            "1:1 2:2 3:17 4:4 5:3 6:6 7:5");
        Ways.placing(H_OR_MORE, "the one at H-1 goes before the nearer ones", "table 8 3 1;row 1 1 3;", 9, 2, 8, 1, 1, "1:1 2:9 3:3 4:2");
        Ways.placing(H_OR_MORE, "down to 1", "table 8 3 1;add 1 1;add 9 1;add 3 1;", 17, 3, 8, 1, 1, "1:1 2:9 3:17 4:3");
        Ways.placing(H_OR_MORE, "down to 1 with H 6", "table 16 6 1;row 1 16 5;add 6 1;", 81, 6, 16, 1, 1,
            "1:1 2:17 3:33 4:49 5:65 6:81 7:6");
        Ways.placing(H_OR_MORE, "H-3 with H 6", "table 16 6 1;row 1 16 3;add 4 1;add 20 1;add 6 1;", 49, 4, 16, 1, 1,
            "1:1 2:17 3:33 4:49 5:20 6:6 7:4");
        Ways.placing(H_OR_MORE, "the distance H in 64 buckets, which cannot grow", "table 64 2 1;row 1 1 2;", 65, 2, 64, 1, 1, "1:1 2:65 3:2");
        Ways.placing(H_OR_MORE, "far more than H in 64 buckets", "table 64 6 1;row 1 1 20;row 21 1 20;", 65, 6, 64, 7, 7,
            "1:1 2:2 3:3 4:4 5:5 6:65 " + farDisplaced());
        // Bucket 1, at the distance 2, is a home, but bucket 2, at the distance 1, is none.
        Ways.placing(H_OR_MORE, "not the one at the distance H", "table 8 2 1;add 1 1;add 9 1;", 17, 2, 16, 0, 0, "1:1 2:17 9:9");
    }

    /** Of 6 to 40 each fifth has moved by five: 36 to 41, 31 to 36 and so on down to 6. */
    private static String farDisplaced() {
        StringBuilder places = new StringBuilder();
        for (int b = 7; b <= 41; b++) {
            places.append(b == 7 ? "" : " ").append(b).append(':').append(b % 5 == 1 ? b - 5 : b);
        }
        return places.toString();
    }

    private static void whichIsDisplaced() {
        // The only entry of the home 2 lies in bucket 5, behind the free bucket 4.
        Ways.placing(IN_FRONT, "a home of an entry behind the free bucket is passed over",
            "table 16 4 1;row 0 16 3;add 3 1;add 4 1;add 18 1;remove 4;", 48, 3, 16, 1, 1, "0:0 1:16 2:32 3:48 4:3 5:18");
        Ways.placing(IN_FRONT, "all entries of the homes lie behind the free bucket",
            "table 16 4 1;row 0 16 4;add 4 1;add 18 1;remove 4;", 64, 2, 32, 0, 0, "0:0 1:32 2:64 16:16 17:48 18:18");
        // The home 2 has the buckets 2 and 5, in front of the free bucket 4 and behind it.
        Ways.placing(IN_FRONT, "one of its entries lies in front, one behind",
            "table 16 4 1;row 0 16 2;add 2 1;row 3 1 2;add 18 1;remove 4;", 32, 2, 16, 1, 1, "0:0 1:16 2:32 3:3 4:2 5:18");
        Ways.placing(IN_FRONT, "of two entries the one at the distance 0", "table 8 3 1;add 1 1;add 2 1;add 10 1;", 9, 2, 8, 1, 1,
            "1:1 2:9 3:10 4:2");
        // The home 2 has the buckets 3 and 4.
        Ways.placing(IN_FRONT, "of two entries at the distances 1 and 2 the nearer one", "table 16 4 1;row 1 16 2;row 2 16 2;", 33, 3, 16, 1, 1,
            "1:1 2:17 3:33 4:18 5:2");
        Ways.placing(IN_FRONT, "a home of an entry behind it is passed over in 64 buckets, which cannot grow",
            "table 64 4 1;row 0 64 3;add 3 1;add 4 1;add 66 1;remove 4;", 192, 3, 64, 1, 1, "0:0 1:64 2:128 3:192 4:3 5:66");
        Ways.placing(MOVES_ON, "over two other entries", "table 16 4 1;row 1 1 4;", 17, 2, 16, 1, 1, "1:1 2:17 3:3 4:4 5:2");
        Ways.placing(MOVES_ON, "again and again in 64 buckets, which cannot grow", "table 64 2 1;row 1 1 5;", 65, 2, 64, 4, 4, "1:1 2:65 3:2 4:3 5:4 6:5");
        Ways.placing(MOVES_ON, "again and again", "table 8 2 1;row 1 1 5;", 9, 2, 8, 4, 4, "1:1 2:9 3:2 4:3 5:4 6:5");
        Boundary.test(26, MOVES_ON, "with its value", () -> {
            NeighbourHash x = Boundary.after("table 8 2 1;add 1 11;add 2 12;add 3 13;add 9 19;");
            Boundary.due(x.valueAt(1) + " " + x.valueAt(2) + " " + x.valueAt(3) + " " + x.valueAt(4), "11 19 12 13");
        });
        Boundary.test(47, MOVES_ON, "each move counts", () -> Boundary.due(Boundary.after("table 8 2 1;row 1 1 5;add 9 1;").moves(), 4));
        Boundary.test(5, MOVES_ON, "displaced entries are found in their buckets", () -> {
            NeighbourHash x = Boundary.after("table 8 2 1;row 1 1 5;");
            x.add(9, 1);
            Boundary.due(x.bucketOf(2) + " " + x.bucketOf(3) + " " + x.bucketOf(4) + " " + x.bucketOf(5), "3 4 5 6");
        });
    }

    private static void noPlace() {
        Ways.noPlace(NO_SUCH_ENTRY, "no such entry at once", "table 64 2 1;row 0 64 2;", 128);
        Ways.noPlace(NO_SUCH_ENTRY, "no such entry after two were displaced", "table 64 2 1;row 0 64 2;row 2 1 2;", 128);
        Ways.noPlace(NO_SUCH_ENTRY, "no bucket was free", Boundary.FULL_64, 64);
        Ways.noPlace(NO_SUCH_ENTRY, "no bucket was free, with the greatest H", Boundary.FULL_64 + "near 6;", 9999);
        Ways.placing(NO_SUCH_ENTRY, "no bucket of 8 was free", Boundary.FULL_8, 8, 8, 16, 0, 0, range(0, 9));
        // Of the home 3 there are 3 and 19; the search displaces 3 behind 19, but the building goes by the table before.
        Ways.placing(NO_SUCH_ENTRY, "the table is as before when it grows", "table 8 3 1;row 0 8 3;add 3 1;add 19 1;", 24, 9, 16, 0, 0,
            "0:0 1:16 3:3 4:19 8:8 9:24");
    }

    // ---- removing

    private static void removing() {
        Ways.freeing(FREED, "without pulling", "table 8 3 1;add 1 1;add 9 2;add 2 3;", 1, "2:9 3:2");
        Ways.freeing(FREED, "the only entry, with pulling", "table 8 3 1;add 1 1;pull;", 1, "");
        Boundary.test(25, FREED, "its bucket", () -> Boundary.due(Boundary.after("table 8 3 1;add 1 1;remove 1;").keyAt(1), Boundary.NONE));
        Boundary.test(26, FREED, "its bucket", () -> Boundary.due(Boundary.after("table 8 3 1;add 1 1;remove 1;").valueAt(1), Boundary.NONE));
        Boundary.test(27, FREED, "its hop bit", () -> Boundary.due(Boundary.after("table 8 3 1;add 1 1;remove 1;").hopBits(1), 0));
        Boundary.test(29, FREED, "its bucket", () -> Boundary.due(Boundary.after(Boundary.FULL_8 + "remove 4;").freeDistance(5), 7));
        Boundary.test(5, FREED, "a new entry gets its bucket", () -> Boundary.due(Boundary.after("table 8 3 1;row 1 1 3;remove 2;").add(10, 1), 2));
        Ways.removing(PULL_ORDER, "the home at the distance 1 goes before the one at 0", "table 8 3 1;row 2 1 2;row 10 1 2;pull;", 3, 2,
            "2:2 3:10 4:11");
        Ways.removing(PULL_ORDER, "down to 0", "table 8 3 1;row 1 8 2;pull;", 1, 1, "1:9");
        Ways.removing(PULL_ORDER, "from H-2 on with H 6", "table 16 6 1;row 1 16 5;add 6 1;add 81 1;add 22 1;pull;", 65, 2,
            "1:1 2:17 3:33 4:49 5:81 6:22 7:6");
        Ways.removing(PULL_ORDER, "pulling is off again", "table 8 3 1;row 1 8 2;pull;lie;", 1, 0, "2:9");
        Ways.removing(IS_BEHIND, "a home whose entry lies in front is passed over", "table 8 3 1;row 2 1 2;add 11 1;pull;", 3, 1, "2:2 3:11");
        Ways.removing(IS_BEHIND, "no entry lies behind it", "table 8 3 1;row 2 8 3;pull;", 18, 0, "2:2 3:10");
        Ways.removing(IS_BEHIND, "an entry behind it lies in its home", "table 8 3 1;row 1 1 3;pull;", 1, 0, "2:2 3:3");
        Ways.removing(IS_BEHIND, "of its entries the farthest", "table 8 3 1;row 1 8 3;pull;", 1, 1, "1:17 2:9");
        Ways.removing(IS_BEHIND, "of its entries the farthest, H is 6", "table 16 6 1;row 1 16 6;pull;", 17, 1, "1:1 2:81 3:33 4:49 5:65");
        Ways.removing(PULLED_AGAIN, "twice", "table 8 3 1;row 1 8 2;add 2 1;pull;", 1, 2, "1:9 2:2");
        // Each entry lies one behind its home, but for the first.
        Ways.removing(PULLED_AGAIN, "as long as there is one", "table 16 2 1;row 1 16 2;row 2 1 9;pull;", 1, 10,
            "1:17 2:2 3:3 4:4 5:5 6:6 7:7 8:8 9:9 10:10");
        Ways.removing(PULLED_AGAIN, "each entry twice, twice round the table", ALL_TWO_AWAY + "pull;", 14, 14,
            "0:8 1:9 2:10 3:11 4:12 5:13 7:15");
        Boundary.test(26, PULLED_AGAIN, "with its value", () -> {
            NeighbourHash x = Boundary.after("table 8 3 1;add 1 11;add 9 19;add 2 12;pull;remove 1;");
            Boundary.due(x.valueAt(1) + " " + x.valueAt(2) + " " + x.valueAt(3), "19 12 -1");
        });
        Boundary.test(33, PULLED_AGAIN, "pulled entries are found in their buckets", () -> {
            NeighbourHash x = Boundary.after("table 8 3 1;add 1 11;add 9 19;add 2 12;pull;remove 1;");
            Boundary.due(x.bucketOf(9) + " " + x.bucketOf(2), "1 2");
        });
    }
}
