/** Boundary cases of the Terms: scripts. A sign ^ stands before the token with the error. */
final class ScriptCases {
    private static final String MOST_600 = "A script is a text of at most 600 bytes.";
    private static final String SCRIPT = "script = \"table\" BUCKETS H MULTIPLIER \";\" { command \";\" }";
    private static final String COMMAND = "\"repeat\" N \"(\" { command \";\" } \")\"";
    private static final String TOKENS = "A token is a word (a maximal run of the letters a to z), a number (a maximal run of 1 to 4 digits),"
        + " a parenthesis or a semicolon.";
    private static final String BLANKS = "Spaces (byte 32) and line feeds (byte 10) separate tokens and are otherwise ignored.";
    private static final String STAND_FOR = "setPulling (with true for \"pull\" and false for \"lie\"), grow and clear";
    private static final String OFF_AT_FIRST = "pulling is off at first.";
    private static final String REPEATS = "\"repeat\" executes the commands in its parentheses N times (1 to 20).";
    private static final String ONE_BY_ONE = "Commands are executed one after the other.";
    private static final String FIRST_ERROR = "The first error that is found while the commands are executed is reported"
        + " with the offset of the first byte of its token, also if it is found in a later repetition";
    private static final String SMALLEST_KIND = "if several kinds of error apply to one token, the smallest kind is reported.";
    private static final String KIND_1_TOKEN = "1, a token that the grammar does not allow at this place";
    private static final String KIND_1_DIGITS = "a run of more than 4 digits";
    private static final String KIND_1_BYTE = "a byte that does not begin a token";
    private static final String KIND_1_END = "or the end of the text inside a statement (the offset is then the length of the text)";
    private static final String KIND_2_RANGE = "2, a number that is out of its range (as for the method";
    private static final String KIND_2_BUCKETS = "BUCKETS other than 8, 16, 32 and 64)";
    private static final String KIND_2_COUNT = "the COUNT of \"row\" with which the last key would be greater than 9999";
    private static final String KIND_2_REMOVE = "the KEY of \"remove\" that no entry has";
    private static final String KIND_3 = "3, the semicolon behind a command whose method would throw an IllegalStateException";
    private static final String KIND_4 = "4, the word \"repeat\" inside two other repeats";
    private static final String KIND_5 = "5, the first word of the command that would be the 201st one to be executed (a \"repeat\" itself does not count).";

    private static final String T = "table 8 3 1;";
    private static final String TWO_HUNDRED = T + "repeat 20(repeat 10(pull;););";

    private ScriptCases() {
    }

    static void list() {
        length();
        grammar();
        tokens();
        blanks();
        commands();
        repeats();
        firstError();
        smallestKind();
        wrongTokens();
        endOfText();
        wrongNumbers();
        refusedCommands();
        deepAndLong();
    }

    /** The script has an error of the kind at the token, and nothing but the input and the error changes. */
    static void error(int kind, String marked) {
        int offset = marked.indexOf('^');
        String script = marked.substring(0, offset) + marked.substring(offset + 1);
        NeighbourHash x = new NeighbourHash();
        x.put(1, 500);
        Boundary.due(script, Boundary.run(x, script), Boundary.NONE);
        Boundary.due("kind and offset of " + script, x.scriptErrorKind() + " " + x.scriptErrorOffset(), kind + " " + offset);
        Boundary.due("the state after " + script, Boundary.state(x), Boundary.NEW_STATE.replace("1=10", "1=500"));
        Boundary.due("the input after " + script, Boundary.inputLength(x), 0);
        Boundary.due("undoCount() after " + script, x.undoCount(), 1);
    }

    private static void errors(int promise, String sentence, String what, int kind, String... marked) {
        Boundary.test(promise, sentence, what, () -> {
            for (String script : marked) {
                error(kind, script);
            }
        });
    }

    private static void errors(String sentence, String what, int kind, String... marked) {
        errors(4, sentence, what, kind, marked);
    }

    private static void table(String sentence, String what, String script, String table) {
        Boundary.test(4, sentence, what, () -> {
            NeighbourHash x = Boundary.after(script);
            Boundary.due(Boundary.places(x), table);
            Boundary.due(x.scriptErrorKind() + " " + x.scriptErrorOffset(), "0 -1");
        });
    }

    private static String blanks(int count) {
        return " ".repeat(count);
    }

    private static void length() {
        table(MOST_600, "600 bytes, the last of them a semicolon", T + blanks(580) + "add 5 1;", "5:5");
        errors(MOST_600, "600 bytes, the last of them an error", 1, T + "add 5 1;" + blanks(579) + "^?");
        errors(MOST_600, "600 bytes, then the end of the text", 1, T + "add 5 1" + blanks(581) + "^");
        Boundary.test(2, MOST_600, "600 bytes, and no more", () -> {
            NeighbourHash x = new NeighbourHash();
            for (int i = 1; i <= 30; i++) {
                Boundary.due(x.append(0, 0, 0, 0, 0), 20 * i);
            }
            Boundary.due(x.append(0, 0, 0, 0, 0), Boundary.NONE);
        });
    }

    private static void grammar() {
        table(SCRIPT, "no command", T, "");
        table(SCRIPT, "one command", T + "add 1 1;", "1:1");
        errors(SCRIPT, "no table", 1, "^add 1 1;", "^;", "^8 3 1;", "^repeat 2();");
        errors(SCRIPT, "a second table", 1, T + "^table 8 3 1;", T + "repeat 1(^table 8 3 1;);");
        table(COMMAND, "no command in the parentheses", T + "repeat 3();add 1 1;", "1:1");
        table(COMMAND, "a repeat in a repeat, and one behind it", T + "repeat 2(repeat 1(put 1 1;);put 2 1;);repeat 1(repeat 1(add 3 1;););", "1:1 2:2 3:3");
        errors(COMMAND, "its semicolon is missing", 1, T + "repeat 2(pull;)^pull;", T + "repeat 2(pull;)^)", T + "repeat 2(repeat 2(pull;)^);");
        errors(COMMAND, "the semicolon of its last command is missing", 1, T + "repeat 2(pull^);");
        errors(COMMAND, "a parenthesis is missing", 1, T + "repeat 2 ^pull;", T + "repeat 2^;", T + "repeat 2(^;");
        errors(COMMAND, "a parenthesis too many", 1, T + "repeat 2(^(pull;););", T + "repeat 2(pull;);^);", T + "^(pull;);");
    }

    private static void tokens() {
        table(TOKENS, "a number of 1 digit and of 4 digits", "table 8 3 1;add 0003 0001;add 4 1;", "3:3 4:4");
        table(TOKENS, "4 digits each", "table 0016 0003 0001;row 9999 0999 0001;", "13:9999");
        errors(TOKENS, "words that only begin, or end, like a word", 1, "^tabl 8 3 1;", "^tables 8 3 1;", T + "^ad 1 1;", T + "^adds 1 1;",
            T + "^xadd 1 1;", T + "^pulll;", T + "^repeatt 2();", T + "^addadd 1 1;", T + "^a;", T + "^z;");
        errors(TOKENS, "words with another first, middle or last letter", 1, "^fable 8 3 1;", "^tamle 8 3 1;", "^tablo 8 3 1;", T + "^odd 1 1;", T + "^aid 1 1;",
            T + "^ads 1 1;", T + "^but 1 1;", T + "^pot 1 1;", T + "^puz 1 1;", T + "^low 1 1 1;", T + "^raw 1 1 1;", T + "^rob 1 1 1;", T + "^demove 1;",
            T + "^rename 1;", T + "^removal 1;", T + "^rear 3;", T + "^noar 3;", T + "^neat 3;", T + "^dimes 3;", T + "^tiles 3;", T + "^timed 3;", T + "^full;",
            T + "^pall;", T + "^puls;", T + "^die;", T + "^lee;", T + "^lit;", T + "^prow;", T + "^glow;", T + "^grew;", T + "^blear;", T + "^cleat;",
            T + "^depeat 2();", T + "^repent 2();", T + "^repeal 2();");
        errors(TOKENS, "the first and the last letter of the alphabet belong to a word", 1, T + "^adda 1 1;", T + "^addz 1 1;", T + "^zadd 1 1;");
        errors(TOKENS, "a word is not broken off", 1, T + "^pulllie;", T + "^addput 1 1;");
        errors(TOKENS, "great letters", 1, "^Table 8 3 1;", T + "^ADD 1 1;", T + "add^D 1 1;");
        errors(TOKENS, "the signs next to the letters and the digits", 1, T + "^`;", T + "^{;", T + "pull^`;", T + "pull^{;", T + "add ^/1 1;",
            T + "add ^:1 1;", T + "add 1^/ 1;", T + "add 1^: 1;", T + "add 1 ^-1;", T + "add ^+1 1;", T + "add 1^.0 1;");
        table(TOKENS, "nothing between a word and a number, a parenthesis and a word", "table8 3 1;add1 1;repeat2(put2 1;);", "1:1 2:2");
        errors(TOKENS, "a letter behind a number ends it", 1, T + "add 1^x 1;");
    }

    private static void blanks() {
        table(BLANKS, "at the beginning, at the end and around each token",
            "\n \n table \n8\n3 \n\n 1 ; add\n1\n1\n;\nrepeat 2\n(\nput 2 1\n;\n)\n;\n \n", "1:1 2:2");
        table(BLANKS, "a line feed alone between two numbers", "table\n8\n3\n1;add\n1\n1;", "1:1");
        errors(BLANKS, "a word is parted", 1, "^ta ble 8 3 1;", T + "^ad d 1 1;", T + "^pu\nll;");
        errors(BLANKS, "a number is parted", 1, "table 8 3 1;add 1 1 ^1;", T + "add 1 1\n^1;");
        for (int sign : new int[] {0, 9, 11, 12, 13, 31, 33, 127, 128, 133, 160, 255}) {
            errors(BLANKS, "the byte " + sign + " is no blank", 1, T + "add 1^" + (char) sign + "1;", T + "^" + (char) sign, "^" + (char) sign + T);
        }
        errors(BLANKS, "the offset counts them", 1, "  \n ^x", T + " \n ^x");
    }

    private static void commands() {
        Boundary.test(4, STAND_FOR, "pull, lie", () -> {
            Boundary.due(Boundary.after(T + "pull;").isPulling(), true);
            Boundary.due(Boundary.after(T + "pull;lie;").isPulling(), false);
            Boundary.due(Boundary.after(T + "lie;pull;").isPulling(), true);
        });
        Boundary.test(4, STAND_FOR, "the other commands leave pulling as it is", () -> {
            for (String command : new String[] {"add 5 5;", "put 5 5;", "put 1 5;", "row 1 1 9;", "remove 1;", "near 4;", "times 5;", "grow;", "clear;", "repeat 2();"}) {
                Boundary.due(Boundary.after(T + "add 1 1;pull;" + command).isPulling(), true);
                Boundary.due(Boundary.after(T + "add 1 1;lie;" + command).isPulling(), false);
            }
        });
        Boundary.test(24, STAND_FOR, "pull, lie", () -> {
            Boundary.due(Boundary.after(T + "pull;").isPulling(), true);
            Boundary.due(Boundary.after(T + "lie;").isPulling(), false);
        });
        Boundary.test(4, OFF_AT_FIRST, "the object was pulling", () -> {
            Boundary.due(Boundary.after(T).isPulling(), false);
            NeighbourHash x = Boundary.after(T + "pull;");
            Boundary.run(x, T);
            Boundary.due(x.isPulling(), false);
        });
        table(OFF_AT_FIRST, "nothing is pulled before pull", T + "add 1 1;add 9 1;remove 1;pull;", "2:9");
        table(ONE_BY_ONE, "an entry is removed and added again", T + "add 1 1;remove 1;add 1 2;remove 1;add 9 1;", "1:9");
        errors(ONE_BY_ONE, "an entry is added twice, removed twice", 3, T + "add 1 1;add 1 1^;");
        errors(ONE_BY_ONE, "an entry is removed before it is added", 2, T + "remove ^1;add 1 1;", T + "add 1 1;clear;remove ^1;");
    }

    private static void repeats() {
        Boundary.test(4, REPEATS, "1 time, 2 times, 20 times", () -> {
            Boundary.due(Boundary.after(T + "repeat 1(clear;add 1 1;);").addedCount(), 1);
            Boundary.due(Boundary.after(T + "repeat 2(clear;add 1 1;);").addedCount(), 2);
            Boundary.due(Boundary.after(T + "repeat 20(clear;add 1 1;);").addedCount(), 20);
        });
        Boundary.test(4, REPEATS, "in another one", () -> {
            Boundary.due(Boundary.after(T + "repeat 3(repeat 4(clear;add 1 1;);put 2 2;);").addedCount(), 15);
            Boundary.due(Boundary.after(T + "repeat 20(repeat 5(clear;add 1 1;););").addedCount(), 100);
            Boundary.due(Boundary.after(T + "repeat 2(repeat 3(clear;add 1 1;);repeat 2(clear;add 1 1;););").addedCount(), 10);
        });
        table(REPEATS, "20 times 20 times nothing", T + "repeat 20(repeat 20(););add 1 1;", "1:1");
        errors(REPEATS, "0 times, 21 times", 2, T + "repeat ^0(pull;);", T + "repeat ^21(pull;);", T + "repeat ^9999(pull;);",
            T + "repeat 2(repeat ^0(pull;););");
    }

    private static void firstError() {
        errors(FIRST_ERROR, "in the second repetition", 3, T + "repeat 2(add 1 1^;);");
        errors(FIRST_ERROR, "in the fourth repetition, behind which there is an error, too", 3, T + "repeat 4(grow^;);foo");
        errors(FIRST_ERROR, "in a later repetition of the inner repeat", 2, T + "add 1 1;repeat 1(repeat 2(remove ^1;););");
        errors(FIRST_ERROR, "in a later repetition of the outer repeat", 2, T + "add 1 1;add 2 2;repeat 2(repeat 1(remove ^1;););");
        errors(FIRST_ERROR, "an error that a repetition finds goes before one of the grammar behind it", 2, T + "add 1 1;repeat 2(remove ^1;)foo");
        errors(FIRST_ERROR, "an error of the grammar goes before one that a repetition would find", 1, T + "add 1 1;repeat 2(remove 1;^foo;);");
        errors(FIRST_ERROR, "the first of two of the same command", 2, T + "add 1 ^1000", T + "row 1 ^0 0;", "table ^9 9 0;", "table 8 ^9 0;");
        errors(19, FIRST_ERROR, "the first byte of a word and of a number", 1, T + "add 1 1;  ^wrong;", T + "add  ^12345 1;", T + "add 1 1   ^pull;");
        errors(19, FIRST_ERROR, "the first byte of a number", 2, T + "add 1   ^1000;", T + "remove  ^9999;");
        errors(19, FIRST_ERROR, "the semicolon itself", 3, T + "add 1 1;add 1 1 \n ^;");
    }

    private static void smallestKind() {
        errors(SMALLEST_KIND, "1 before 2: a number of 5 digits is out of its range, too", 1, T + "add ^10000 1;", T + "add 1 ^99999;", "table ^00009 3 1;",
            T + "near ^00007;", T + "remove ^00001;", T + "row 9999 1 ^00002;");
        errors(SMALLEST_KIND, "1 before 4: repeat inside two others, but not at the beginning of a command", 1, T + "repeat 1(repeat 1(add ^repeat 1();););",
            T + "repeat 1(repeat 1(pull ^repeat 1();););");
        errors(SMALLEST_KIND, "1 before 5: no command begins like this", 1, TWO_HUNDRED + "^foo;", TWO_HUNDRED + "^;", TWO_HUNDRED + "^1;",
            TWO_HUNDRED + "^table;", TWO_HUNDRED + "^)");
        errors(SMALLEST_KIND, "4 before 5: repeat inside two others behind 200 commands", 4, TWO_HUNDRED + "repeat 1(repeat 1(^repeat 1(pull;););););");
        errors(SMALLEST_KIND, "2 twice: neither the COUNT nor the last key is in its range", 2, T + "row 9999 1 ^21;");
    }

    private static void wrongTokens() {
        errors(KIND_1_TOKEN, "for a number", 1, "table ^x", "table 8 ^; 1;", "table 8 3^;", T + "add ^x 1;", T + "add 1^;", T + "add ^;", T + "row 1 1^;",
            T + "remove^;", T + "remove^)", T + "near^;", T + "times ^(", T + "repeat ^(pull;);");
        errors(KIND_1_TOKEN, "for a semicolon", 1, "table 8 3 1 ^1;", "table 8 3 1 ^add 1 1;", T + "add 1 1 ^1;", T + "pull ^1;", T + "lie ^lie;", T + "grow ^2;",
            T + "clear^(", T + "row 1 1 1 ^1;", T + "add 1 1;remove 1^)", T + "near 3 ^3;");
        errors(KIND_1_TOKEN, "for a command", 1, T + "^foo;", T + "^;", T + "^5;", T + "^(", T + "^)", T + "pull;^;", T + "repeat 1(^;);", T + "repeat 1(^5;);");
        // Nothing is executed before its semicolon: the entry with the key would be an error of kind 3 there.
        errors(KIND_1_TOKEN, "a command without its semicolon is not executed", 1, T + "add 1 1;add 1 1 ^add", T + "add 1 1;add 1 1^)");
        errors(18, KIND_1_TOKEN, "the kind is 1", 1, T + "^foo;");
        errors(KIND_1_DIGITS, "5 digits, 10 digits and 580 digits", 1, T + "add ^00001 1;", T + "add 1 ^0000000001;", T + "add 1 ^4294967297;",
            T + "add 1 ^" + "0".repeat(580) + "1;");
        table(KIND_1_DIGITS, "4 digits are none", T + "add 0001 0001;", "1:1");
        errors(KIND_1_DIGITS, "where no number may be", 1, T + "^12345;", T + "pull^12345;");
        errors(KIND_1_BYTE, "at the beginning, within and at the end", 1, "^?" + T, T + "^#", T + "add^, 1 1;", T + "add 1 1^.", T + "pull;^\"", T + "^\t");
        errors(KIND_1_BYTE, "bytes of more than 127", 1, T + "^" + (char) 128, T + "^" + (char) 255, T + "add 1^" + (char) 228 + "1;", T + "pull;^" + (char) 160);
    }

    private static void endOfText() {
        errors(KIND_1_END, "of the table", 1, "^", "  ^", "\n^", "table^", "table ^", "table 8^", "table 8 3^", "table 8 3 1^", "table 8 3 1 \n^");
        errors(KIND_1_END, "of a command", 1, T + "add^", T + "add 1^", T + "add 1 1^", T + "add 1 1  ^", T + "put 1^", T + "row 1 1^", T + "row 1 1 1^",
            T + "remove^", T + "near^", T + "near 3^", T + "times^", T + "pull^", T + "lie ^", T + "grow^", T + "clear\n^");
        errors(KIND_1_END, "of a repeat", 1, T + "repeat^", T + "repeat 2^", T + "repeat 2(^", T + "repeat 2(pull^", T + "repeat 2(pull;^", T + "repeat 2(pull; ^",
            T + "repeat 2(pull;)^", T + "repeat 2(pull;) ^", T + "repeat 2(repeat 2(pull;);^", T + "repeat 2(repeat 2(pull;)^");
        table(KIND_1_END, "not between two statements", T + "add 1 1; \n ", "1:1");
        errors(19, KIND_1_END, "the length, with the blanks at the end", 1, T + "add 1 1   \n\n^");
    }

    private static void wrongNumbers() {
        errors(KIND_2_RANGE, "the H and the MULTIPLIER of the table", 2, "table 8 ^1 1;", "table 8 ^7 1;", "table 8 ^0 1;", "table 8 3 ^0;", "table 8 3 ^100;");
        errors(KIND_2_RANGE, "of add and put", 2, T + "add 1 ^1000;", T + "put 1 ^1000;", T + "add 9999 ^9999;");
        errors(KIND_2_RANGE, "of row", 2, T + "row 1 ^0 1;", T + "row 1 ^1000 1;", T + "row 1 1 ^0;", T + "row 1 1 ^21;");
        errors(KIND_2_RANGE, "of near and times", 2, T + "near ^1;", T + "near ^7;", T + "times ^0;", T + "times ^100;");
        table(KIND_2_RANGE, "the greatest and the smallest numbers are in their ranges",
            "table 8 6 1;near 2;near 6;times 99;times 1;add 0 999;put 9999 0;row 0 999 1;row 9980 1 1;clear;row 9980 1 20;clear;row 0 999 1;", "0:0");
        errors(18, KIND_2_RANGE, "the kind is 2", 2, T + "add 1 ^1000;");
        errors(KIND_2_RANGE, "before the semicolon is looked at", 2, T + "add 1 ^1000 foo", T + "near ^7", "table ^7 foo");
        errors(KIND_2_BUCKETS, "next to each of them", 2, "table ^0 3 1;", "table ^7 3 1;", "table ^9 3 1;", "table ^15 3 1;", "table ^17 3 1;", "table ^31 3 1;",
            "table ^33 3 1;", "table ^63 3 1;", "table ^65 3 1;", "table ^128 3 1;", "table ^4 3 1;", "table ^24 3 1;");
        for (int n : Boundary.SIZES) {
            table(KIND_2_BUCKETS, n + " is one of them", "table " + n + " 3 1;add 5 1;", "5:5");
        }
        errors(KIND_2_COUNT, "10000", 2, T + "row 9999 1 ^2;", T + "row 9981 1 ^20;", T + "row 9001 999 ^2;", T + "row 9998 1 ^3;", T + "row 9000 500 ^3;");
        table(KIND_2_COUNT, "9999 itself, and the greatest step with the COUNT 1", T + "row 9000 999 2;row 9998 1 2;row 9999 999 1;", "3:9000 4:9998 5:9999");
        errors(KIND_2_REMOVE, "no entry at all, another key, removed before", 2, T + "remove ^1;", T + "add 1 1;remove ^2;", T + "add 1 1;remove 1;remove ^1;",
            T + "add 1 1;remove ^9;", T + "remove ^9999;", T + "remove ^0;");
        errors(KIND_2_REMOVE, "before the semicolon is looked at", 2, T + "remove ^1", T + "remove ^1 foo");
        table(KIND_2_REMOVE, "the key of an entry", T + "add 0 1;add 9999 1;remove 0;remove 9999;", "");
    }

    private static void refusedCommands() {
        errors(KIND_3, "add with a key that there is", 3, T + "add 1 1;add 1 2^;", T + "put 1 1;add 1 1 ^;", T + "row 1 1 3;add 3 1\n^;");
        errors(KIND_3, "add, put and row without a place", 3, Boundary.STUCK + "add 1999 3^;", Boundary.STUCK + "put 1999 3 ^;", Boundary.STUCK + "row 1999 1 1^;",
            Boundary.STUCK + "row 1002 997 2^;");
        errors(KIND_3, "near, times and grow that fail", 3, "table 8 3 1;row 5 997 3;near 2^;", "table 64 2 1;row 501 32 3;times 2 ^;", "table 64 3 1;grow^;");
        table(KIND_3, "put with a key that there is and row with keys that there are", Boundary.STUCK + "put 5 9;row 5 997 2;", "5:5 6:1002");
        errors(18, KIND_3, "the kind is 3", 3, T + "add 1 1;add 1 2^;");
    }

    private static void deepAndLong() {
        errors(KIND_4, "the third one", 4, T + "repeat 1(repeat 1(^repeat 1(pull;););););", T + "repeat 1(repeat 1(pull;^repeat", T + "repeat 1(repeat 1(^repeat x",
            T + "repeat 1(repeat 1();repeat 1(^repeat");
        table(KIND_4, "the second one, and others behind one that has ended", T + "repeat 1(repeat 1(add 1 1;);repeat 1(add 2 1;););repeat 1(repeat 1(add 3 1;););",
            "1:1 2:2 3:3");
        errors(18, KIND_4, "the kind is 4", 4, T + "repeat 1(repeat 1(^repeat 1();););");
        Boundary.test(4, KIND_5, "200 commands", () -> Boundary.due(Boundary.after(T + "repeat 20(repeat 4(clear;add 1 1;););repeat 20(clear;add 2 1;);").addedCount(), 100));
        table(KIND_5, "200 commands, and repeats behind them", TWO_HUNDRED + "repeat 20();repeat 2(repeat 2(););", "");
        errors(KIND_5, "behind 200 commands", 5, TWO_HUNDRED + "^lie;", TWO_HUNDRED + "  ^add 1 1;", TWO_HUNDRED + "repeat 1(^lie;);", TWO_HUNDRED + "repeat 1(repeat 1(^lie;););");
        errors(KIND_5, "in a later repetition", 5, T + "repeat 20(repeat 10(^pull;);lie;);", T + "repeat 20(repeat 20(^pull;););",
            T + "lie;repeat 10(repeat 19(lie;);^lie;);", T + "repeat 20(pull;lie;^pull;lie;pull;lie;pull;lie;pull;lie;pull;);");
        errors(KIND_5, "each command counts", 5,
            T + "repeat 20(put 1 1;clear;row 1 1 1;remove 1;near 3;times 1;pull;lie;add 1 1;repeat 1(););repeat 20(lie;);^pull;",
            "table 8 3 1;grow;grow;grow;repeat 19(repeat 10(lie;););repeat 7(clear;);^add 1 1;");
        errors(18, KIND_5, "the kind is 5", 5, TWO_HUNDRED + "^lie;");
    }
}
