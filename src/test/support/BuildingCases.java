/** Boundary cases of the Terms: growing. */
final class BuildingCases {
    private static final String EMPTY_FIRST = "When the table is built anew with a number of buckets, it is empty at first";
    private static final String ORDER = "then all entries get places, in the ascending order of the buckets in which they were before the change";
    private static final String ORDER_OF_ROW = "(with \"row\" or addRow(): before the entry that is added).";
    private static final String DOUBLED = "If there is no place for one of them, the number of buckets is doubled, and the table is built anew again.";
    private static final String MOST_64 = "This fails if there would be more than 64 buckets.";
    private static final String UNTIL_PLACE = "When there is no place for a new entry, the table is built anew with twice as many buckets,"
        + " again and again, until there is a place for the new entry, too.";

    private BuildingCases() {
    }

    static void list() {
        emptyFirst();
        order();
        orderOfRows();
        doubled();
        atMost64();
        untilThereIsAPlace();
    }

    private static void emptyFirst() {
        String setup = "table 8 3 1;add 7 71;add 15 72;add 23 73;";
        Boundary.test(12, EMPTY_FIRST, "nothing is left where the entries were", () ->
            Boundary.due(Boundary.state(Boundary.after(setup + "grow;")),
                "16 3 1 false; 3 entries 7:23=73 8:7=71 15:15=72; hops 0 0 0 0 0 0 0 3 0 0 0 0 0 0 0 1; 0 0 1 3 0"));
        Boundary.test(9, EMPTY_FIRST, "nothing is left where the entries were", () ->
            Boundary.due(Boundary.state(Boundary.after(setup + "near 2;")),
                "16 2 1 false; 3 entries 7:23=73 8:7=71 15:15=72; hops 0 0 0 0 0 0 0 3 0 0 0 0 0 0 0 1; 0 0 1 3 0"));
        Boundary.test(10, EMPTY_FIRST, "nothing is left where the entries were", () ->
            Boundary.due(Boundary.state(Boundary.after(setup + "times 2;")),
                "8 3 2 false; 3 entries 0:7=71 6:15=72 7:23=73; hops 0 0 0 0 0 0 7 0; 0 0 0 3 0"));
        Boundary.test(5, EMPTY_FIRST, "nothing is left where the entries were", () ->
            Boundary.due(Boundary.state(Boundary.after(setup + "add 31 74;")),
                "16 3 1 false; 4 entries 0:31=74 7:23=73 8:7=71 15:15=72; hops 0 0 0 0 0 0 0 3 0 0 0 0 0 0 0 3; 0 0 1 4 0"));
    }

    private static void order() {
        Ways.building(ORDER, "bucket 0 goes before bucket 7", "table 8 3 1;add 7 1;add 15 2;", 3, 8, 0, 0, "0:7 7:15");
        Ways.building(ORDER, "not the order of adding, nor of the keys", "table 8 3 1;add 9 1;add 1 1;remove 9;add 17 1;", 6, 8, 0, 0, "1:17 2:1");
        Ways.timing(ORDER, "bucket 0 goes before bucket 7", "table 8 3 1;add 7 1;add 15 2;", 1, 8, 0, 0, "0:7 7:15");
        Ways.timing(ORDER, "the homes are other ones", "table 8 3 1;add 7 1;add 15 2;", 3, 8, 0, 0, "5:15 6:7");
        Ways.doubling(ORDER, "bucket 0 goes before bucket 7", "table 8 3 1;add 7 1;add 23 2;", 16, 1, 0, "7:23 8:7");
        Ways.doubling(ORDER, "not the order of adding, nor of the keys", "table 8 3 1;add 17 1;add 1 1;remove 17;add 33 1;", 16, 1, 0, "1:33 2:1");
        Ways.adding(ORDER, "bucket 0 goes before bucket 7, the new entry comes last", "table 8 3 1;add 7 1;add 23 1;add 39 1;",
            15, 15, 16, 0, "7:23 8:39 9:7 15:15");
        // In 16 buckets the order would be 31, 15, 47.
        Ways.adding(ORDER, "when it grows twice at once, the order is that before the change", "table 8 3 1;add 15 1;add 47 1;add 31 1;",
            63, 0, 32, 0, "0:63 15:47 16:15 31:31");
        // In the other order 2 would get its home in 16 buckets, and 33 would get bucket 2.
        Ways.adding(ORDER, "the place of the new entry, too", "table 8 3 1;row 1 16 2;add 2 1;row 4 1 4;add 0 1;", 33, 3, 16, 3,
            "0:0 1:1 2:17 3:33 4:2 5:5 6:4 7:7 8:6");
        // In 16 buckets 47, 15 and 31 have the home 15, and H is 2 then.
        Ways.building(ORDER, "when it grows twice at once, the order is that before the change", "table 8 3 1;add 15 1;add 47 1;add 31 1;",
            2, 32, 2, 0, "15:47 16:15 31:31");
    }

    private static void row(String what, String setup, int key, int step, int count, int added, String table) {
        Boundary.test(7, ORDER_OF_ROW, what, () -> {
            NeighbourHash x = Boundary.after(setup);
            Boundary.due(x.addRow(key, step, count), added);
            Boundary.due(Boundary.places(x), table);
        });
        Boundary.test(4, ORDER_OF_ROW, what, () ->
            Boundary.due(Boundary.places(Boundary.after(setup + "row " + key + " " + step + " " + count + ";")), table));
    }

    private static void orderOfRows() {
        row("an entry of the row lies between the others when it grows", "table 8 3 1;add 7 1;add 23 1;", 39, 8, 2, 2, "7:23 8:39 9:7 15:47");
        // It grows for 23, then 15 lies in bucket 0 and 47 in bucket 15; and again for 55.
        row("it grows for two entries of the row", "table 8 3 1;add 15 1;add 47 1;add 7 1;", 23, 16, 3, 3, "7:7 8:39 15:15 16:47 23:23 24:55");
    }

    private static void doubled() {
        Ways.nearing(DOUBLED, "once", "table 8 3 1;row 1 8 3;", 2, 16, 1, 0, "1:1 2:17 9:9");
        Ways.nearing(DOUBLED, "twice", "table 8 3 1;row 1 16 3;", 2, 32, 2, 0, "1:1 2:33 17:17");
        Ways.nearing(DOUBLED, "up to 64", "table 8 3 1;row 1 32 3;", 2, 64, 3, 0, "1:1 2:65 33:33");
        Ways.nearing(DOUBLED, "not if there are places", "table 8 3 1;row 1 8 2;", 2, 8, 0, 0, "1:1 2:9");
        // With the multipliers 8, 16 and 32 the homes of 1, 2 and 3 are the same as long as there are not more than as many buckets.
        Ways.timing(DOUBLED, "once", "table 8 2 1;row 1 1 3;", 8, 16, 1, 0, "0:2 8:1 9:3");
        Ways.timing(DOUBLED, "twice", "table 8 2 1;row 1 1 3;", 16, 32, 2, 0, "0:2 16:1 17:3");
        Ways.timing(DOUBLED, "up to 64", "table 8 2 1;row 1 1 3;", 32, 64, 3, 0, "0:2 32:1 33:3");
        Ways.timing(DOUBLED, "not if there are places", "table 8 3 1;row 1 1 3;", 8, 8, 0, 0, "0:1 1:2 2:3");
        // In 8 buckets 2 is displaced for 9, then 17 has no place; in 16 it is displaced for 17.
        Ways.nearing(DOUBLED, "the moves of the building that failed are forgotten", "table 8 4 1;row 1 1 2;row 9 8 2;", 2, 16, 1, 1,
            "1:1 2:17 3:2 9:9");
        // With 1 the sum is 2; with 2 there are three entries of the home 0, and in 16 buckets the sum would be 1.
        Boundary.test(46, DOUBLED, "a multiplier with which it would be doubled is passed over", () ->
            Boundary.due(Boundary.after("table 8 2 1;add 48 1;add 56 1;add 1 1;add 22 1;add 20 1;").bestMultiplier(2), 1));
    }

    private static void atMost64() {
        Ways.notNear(MOST_64, "from 64 buckets", "table 64 3 1;row 1 64 3;", 2);
        Ways.notNear(MOST_64, "from 8 buckets", "table 8 3 1;row 1 64 3;", 2);
        Ways.notTimes(MOST_64, "from 64 buckets", "table 64 2 1;row 1 1 3;", 64);
        Ways.notTimes(MOST_64, "from 8 buckets", "table 8 2 1;row 1 1 3;", 64);
        // Their homes are 53, 21 and 53 with the multiplier 1, but all 5 with the multiplier 2.
        Ways.notTimes(MOST_64, "the only other multiplier", "table 64 2 1;row 501 32 3;", 2);
        // With 1 the sum is 3, and with 2 three entries have the home 5.
        Boundary.test(46, MOST_64, "a multiplier that fails is passed over", () ->
            Boundary.due(Boundary.after("table 64 2 1;row 501 32 3;row 470 64 2;row 440 64 2;").bestMultiplier(2), 1));
        Ways.notDoubled(MOST_64, "no entries", "table 64 3 1;");
        Ways.notDoubled(MOST_64, "all buckets are full", Boundary.FULL_64);
        Ways.doubling(MOST_64, "64 itself", "table 32 3 1;add 1 1;add 33 1;", 64, 1, 0, "1:1 33:33");
        Ways.placing(MOST_64, "64 itself", "table 32 2 1;row 1 32 2;", 65, 2, 64, 0, 0, "1:1 2:65 33:33");
        Ways.nearing(MOST_64, "64 itself", "table 32 3 1;row 1 32 3;", 2, 64, 1, 0, "1:1 2:65 33:33");
        Ways.timing(MOST_64, "64 itself", "table 32 2 1;row 1 1 3;", 32, 64, 1, 0, "0:2 32:1 33:3");
        Ways.noPlace(MOST_64, "from 8 buckets", Boundary.STUCK, 1999);
        Ways.noPlace(MOST_64, "from 16 buckets", "table 16 2 1;row 5 997 2;", 1999);
        Ways.noPlace(MOST_64, "from 32 buckets", "table 32 2 1;row 5 997 2;", 1999);
        Ways.noPlace(MOST_64, "from 64 buckets", "table 64 2 1;row 5 997 2;", 1999);
    }

    private static void untilThereIsAPlace() {
        Ways.placing(UNTIL_PLACE, "once", "table 8 2 1;row 1 8 2;", 17, 2, 16, 0, 0, "1:1 2:17 9:9");
        Ways.placing(UNTIL_PLACE, "twice", "table 8 2 1;row 1 16 2;", 33, 2, 32, 0, 0, "1:1 2:33 17:17");
        Ways.placing(UNTIL_PLACE, "three times", "table 8 2 1;row 1 32 2;", 65, 2, 64, 0, 0, "1:1 2:65 33:33");
        Ways.placing(UNTIL_PLACE, "from 16 to 64", "table 16 2 1;row 1 32 2;", 65, 2, 64, 0, 0, "1:1 2:65 33:33");
        Ways.placing(UNTIL_PLACE, "from 32 to 64", "table 32 2 1;row 1 32 2;", 65, 2, 64, 0, 0, "1:1 2:65 33:33");
        Ways.placing(UNTIL_PLACE, "not at all", "table 8 3 1;row 1 8 2;", 17, 3, 8, 0, 0, "1:1 2:9 3:17");
        // In 32 buckets 2 is displaced for the new entry, which does not count for the present table.
        Ways.placing(UNTIL_PLACE, "with a displaced entry in the new table", "table 8 2 1;add 1 1;add 2 2;add 17 3;", 33, 2, 32, 0, 1,
            "1:1 2:33 3:2 17:17");
        Boundary.test(49, UNTIL_PLACE, "once, twice, three times", () -> {
            Boundary.due(Boundary.after("table 8 2 1;row 1 8 3;").growths(), 1);
            Boundary.due(Boundary.after("table 8 2 1;row 1 16 3;").growths(), 2);
            Boundary.due(Boundary.after("table 8 2 1;row 1 32 3;").growths(), 3);
        });
    }
}
