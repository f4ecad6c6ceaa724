/**
 * The sentences of the document's Description on the text that name a boundary, a test each: the last text that
 * is taken, the first one that is refused, its fault, and that this changes nothing.
 */
public final class TextBoundariesTest {
    private static final int FULL = Cases.FULL;
    private static final Cases CASES = new Cases(new Check("boundaries of the text"));

    public static void main(String[] args) {
        testEightyBytes();
        testCommands();
        testNoBlanksNeeded();
        testNumbers();
        testZerosInFront();
        testIndexes();
        testAmounts();
        testBlanks();
        testBlanksBetweenNumbers();
        testByteThatCannotStand();
        testLetters();
        testIndexFaults();
        testLesserSecondIndex();
        testTextEndsTooEarly();
        testLeastFaultCounts();
        testSet();
        testAdd();
        testSwap();
        testFill();
        testTurn();
        CASES.finish();
    }

    private static void due(String what, long got, long want) {
        CASES.due(what, got, want);
    }

    private static void plays(int form, String text, int commands) {
        CASES.changes("form " + form + " \"" + text + "\"", () -> Cases.written(form, text), StateVault::play,
            commands);
    }

    private static void fault(int form, String text, int position) {
        CASES.refused("form " + form + " \"" + text + "\"", () -> onSomeGame(form, text), StateVault::play,
            -2000 - position);
    }

    /** A game whose values all differ, so that a command that is carried out before a fault would be seen. */
    private static StateVault onSomeGame(int form, String text) {
        StateVault x = Cases.keptOne(1, "set 1 1;set 2 2;set 3 3;set 4 4;set 5 5;set 6 6;set 7 7;");
        for (int f = 1; f < form; f++) {
            x.raise();
        }
        Cases.write(x, text);
        return x;
    }

    private static void makes(int form, String text, int... values) {
        StateVault x = onSomeGame(form, text);
        due("play of \"" + text + "\"", x.play() > 0 ? 1 : 0, 1);
        CASES.values("\"" + text + "\"", x, values);
    }

    /** "There is a text of at most 80 bytes" */
    private static void testEightyBytes() {
        Cases.Maker short79 = () -> Cases.written(1, " ".repeat(79));
        Cases.Maker full = () -> Cases.written(1, " ".repeat(80));
        CASES.tells("79 bytes", short79, x -> x.count(10), 79);
        due("the 80th byte", short79.make().type(32), 80);
        CASES.refused("the 81st byte", full, x -> x.type(32), FULL);
        CASES.refused("the 81st byte, which would mend the text", () -> Cases.written(1, " ".repeat(74) + "set0 1"),
            x -> x.type(';'), FULL);
        plays(1, " ".repeat(80), 0);
        plays(1, " ".repeat(73) + "set0 1;", 1);
        plays(1, "set0 1;" + " ".repeat(73), 1);
        fault(1, " ".repeat(74) + "set0 1", 80);
        fault(1, " ".repeat(79) + "s", 79);
        StateVault x = full.make();
        x.clear();
        due("there is room again", x.type('s'), 1);
    }

    /** "script = { command ";" }": none, one, and as many as have room */
    private static void testCommands() {
        plays(1, "", 0);
        plays(1, " ", 0);
        plays(1, "set0 1;", 1);
        plays(1, "set0 1;".repeat(11), 11);
        plays(1, "add0-1;".repeat(11) + "   ", 11);
        plays(1, "set 0 1;".repeat(10), 10);
        fault(1, ";", 0);
        fault(1, "set 0 1", 7);
        fault(1, "set 0 1;;", 8);
        fault(1, ";set 0 1;", 0);
        fault(1, "set 0 1 set 0 1;", 8);
        fault(1, "set 0 1;".repeat(9) + "set 0 1 ", 80);
    }

    /** "Blanks ... can stand": where they need not, the text is taken without them */
    private static void testNoBlanksNeeded() {
        plays(1, "set0 1;add0 1;add0-1;swap0 1;fill0 1 2;turn0 1;", 6);
        fault(1, "set01;", 5);
        fault(3, "fill0 11;", 8);
        fault(1, "fill01 2;", 8);
        fault(1, "turn01;", 6);
    }

    /** "Numbers have one or two digits, as many as there are (a third digit cannot stand...)" */
    private static void testNumbers() {
        plays(1, "set 0 0;set 0 9;set 0 10;set 0 99;", 4);
        fault(1, "set 0 100;", 8);
        fault(1, "set 0 990;", 8);
        fault(1, "set 0 999", 8);
        plays(1, "add 0 99;add 0 -99;", 2);
        fault(1, "add 0 100;", 8);
        fault(1, "add 0 -100;", 9);
        plays(1, "fill 0 7 99;", 1);
        fault(1, "fill 0 7 100;", 11);
        plays(3, "set 11 1;", 1);
        fault(3, "set 110 1;", 6);
        fault(3, "swap 0 110;", 9);
        fault(3, "fill 0 110 1;", 9);
        fault(3, "turn 0 110;", 9);
        fault(1, "set 0 ;", 6);
        fault(1, "set ;", 4);
    }

    /** "zeros in front can" */
    private static void testZerosInFront() {
        plays(1, "set 00 00;set 07 09;add 01 01;add 01 -01;add 0 -00;", 5);
        plays(1, "swap 00 07;fill 00 07 00;turn 00 07;", 3);
        fault(1, "set 000 1;", 6);
        fault(1, "set 007 1;", 6);
        fault(1, "set 0 000;", 8);
        fault(1, "set 0 009;", 8);
        fault(1, "add 0 -009;", 9);
        fault(1, "fill 0 000 1;", 9);
    }

    /** "an index is the number of a value of the game": 0 to 7, 9 or 11, by its form */
    private static void testIndexes() {
        for (int form = 1; form <= 3; form++) {
            int last = 5 + 2 * form;
            int none = last + 1;
            plays(form, "set 0 1;set " + last + " 1;", 2);
            fault(form, "set " + none + " 1;", 4);
            plays(form, "add 0 1;add " + last + " 1;", 2);
            fault(form, "add " + none + " 1;", 4);
            plays(form, "swap 0 " + last + ";swap " + last + " 0;", 2);
            fault(form, "swap 0 " + none + ";", 7);
            fault(form, "swap " + none + " 0;", 5);
            plays(form, "fill 0 " + last + " 1;fill " + last + " " + last + " 1;", 2);
            fault(form, "fill 0 " + none + " 1;", 7);
            fault(form, "fill " + none + " " + none + " 1;", 5);
            plays(form, "turn 0 " + last + ";turn " + last + " " + last + ";", 2);
            fault(form, "turn 0 " + none + ";", 7);
            fault(form, "turn " + none + " " + none + ";", 5);
        }
        plays(1, "set 07 1;", 1);
        fault(1, "set 08 1;", 4);
        plays(2, "set 09 1;", 1);
        fault(2, "set 99 1;", 4);
        fault(3, "set 99 1;", 4);
        fault(1, "set -0 1;", 4);
        fault(1, "set -1 1;", 4);
    }

    /** "an amount can have "-" directly ahead": only an amount, only one, and without a blank */
    private static void testAmounts() {
        plays(1, "add 0 -1;add 0 -0;add 0 -00;add 0 -99;add 0 1;", 5);
        fault(1, "add 0 - 1;", 7);
        fault(1, "add 0 --1;", 7);
        fault(1, "add 0 +1;", 6);
        fault(1, "add 0 1-;", 7);
        fault(1, "add 0 -;", 7);
        fault(1, "add -0 1;", 4);
        fault(1, "set 0 -1;", 6);
        fault(1, "swap 0 -1;", 7);
        fault(1, "fill 0 1 -1;", 9);
        fault(1, "turn 0 -1;", 7);
    }

    /** "Blanks (byte 32) can stand ahead of and behind words, numbers and signs" */
    private static void testBlanks() {
        plays(1, "  set  0  1  ;  add  0  -1  ;  swap  0  1  ;  fill  0  1  2  ;  turn  0  1  ;  ", 5);
        fault(1, "s et 0 1;", 0);
        fault(1, "swa p 0 1;", 0);
        fault(1, "set 0 1 2 ;", 8);
        int[] others = {0, 9, 10, 13, 31, 33, 95, 127};
        for (int other : others) {
            char sign = (char) other;
            fault(1, sign + "set 0 1;", 0);
            fault(1, "set" + sign + "0 1;", 3);
            fault(1, "set 0" + sign + "1;", 5);
            fault(1, "set 0 1" + sign + ";", 7);
            fault(1, "set 0 1;" + sign, 8);
            fault(1, "add 0" + sign + "-1;", 5);
            fault(1, "add 0 -" + sign + "1;", 7);
        }
    }

    /** "and must stand between two numbers, unless the second one begins with "-"" */
    private static void testBlanksBetweenNumbers() {
        plays(1, "set 0 1;", 1);
        plays(1, "add 0-1;", 1);
        plays(1, "add 00-01;", 1);
        plays(3, "add 11-1;", 1);
        fault(3, "set 11;", 6);
        fault(1, "set 001;", 6);
        fault(1, "set 01;", 6);
        fault(1, "add 01;", 6);
        fault(1, "swap 01;", 7);
        fault(1, "fill 01 1;", 9);
        fault(1, "fill 0 11;", 7);
        fault(3, "fill 0 11;", 9);
        fault(1, "turn 01;", 7);
    }

    /** "The fault of a text is the index, from 0, of the first byte that cannot stand at its place" */
    private static void testByteThatCannotStand() {
        fault(1, "0", 0);
        fault(1, "-", 0);
        fault(1, "A", 0);
        fault(1, "@", 0);
        fault(1, "`", 0);
        fault(1, "{", 0);
        fault(1, "set/0 1;", 3);
        fault(1, "set:0 1;", 3);
        fault(1, "set 0/1;", 5);
        fault(1, "set 0:1;", 5);
        fault(1, "set 0 1/;", 7);
        fault(1, "set 0 1:;", 7);
        fault(1, "set 0 1x;", 7);
        fault(1, "set 0;1;", 5);
        fault(1, "swap 0;", 6);
        fault(1, "swap 0 1 2;", 9);
        fault(1, "fill 0 1;", 8);
        fault(1, "fill 0 1 2 3;", 11);
        fault(1, "turn 0 1 2;", 9);
        fault(1, " ".repeat(79) + ";", 79);
    }

    /** "for letters from a to z (as many as stand there) that are none of the words that of the first of them" */
    private static void testLetters() {
        plays(1, "set0 1;add0 1;swap0 1;fill0 1 2;turn0 1;", 5);
        String[] none = {
            "a", "z", "ad", "adda", "addz", "se", "sett", "sets", "swa", "swaps", "swapa", "fil", "fills", "tur",
            "turns", "setadd", "addset", "aset", "zset", "tes", "dda", "paws", "wap", "et", "az",
        };
        for (String letters : none) {
            fault(1, letters, 0);
            fault(1, letters + " 0 1;", 0);
            fault(1, letters + "0 1;", 0);
            fault(1, "set 0 1;  " + letters + " 0 1;", 10);
            fault(1, "set 0 1;" + letters, 8);
        }
        testNeighbouringLetters();
        fault(1, "sEt 0 1;", 0);
        fault(1, "setA 0 1;", 3);
        fault(1, "set` 0 1;", 3);
        fault(1, "set{ 0 1;", 3);
        fault(1, "set set 0 1;", 4);
        fault(1, "set 0 set;", 6);
        fault(1, "z".repeat(80), 0);
    }

    private static void testNeighbouringLetters() {
        for (String word : new String[] {"set", "add", "swap", "fill", "turn"}) {
            for (int i = 0; i < word.length(); i++) {
                for (int step = -1; step <= 1; step += 2) {
                    char other = (char) (word.charAt(i) + step);
                    String spoilt = word.substring(0, i) + other + word.substring(i + 1);
                    fault(1, spoilt + " 0 1;", 0);
                }
            }
        }
    }

    /** "for an index that the game does not have by its first two digits ... that of its first digit" */
    private static void testIndexFaults() {
        fault(1, "set 8", 4);
        fault(1, "set 8x", 4);
        fault(1, "set 80 1;", 4);
        fault(1, "set 800 1;", 4);
        fault(1, "set 8 100;", 4);
        fault(1, "set 078 1;", 6);
        fault(1, "set 080 1;", 4);
        fault(1, "set 70 1;", 4);
        fault(1, "set 700 1;", 4);
        fault(3, "set 119 1;", 6);
        fault(3, "set 120 1;", 4);
        fault(3, "set 12", 4);
        fault(3, "set 1", 5);
        fault(1, "swap 1 8", 7);
        fault(1, "swap 1 80", 7);
        fault(1, "swap 1 800", 7);
        fault(1, "swap 1  8;", 8);
        fault(1, " ".repeat(75) + "set 8", 79);
    }

    /** "and for a second index of "fill" or "turn" that is less than the first one, that of its first digit" */
    private static void testLesserSecondIndex() {
        plays(1, "fill 5 5 1;turn 5 5;swap 5 4;", 3);
        fault(1, "fill 5 4 1;", 7);
        fault(1, "fill 5 04 1;", 7);
        fault(1, "fill 5 040 1;", 7);
        fault(1, "fill 5 4", 7);
        fault(1, "fill 5 4x", 7);
        fault(1, "fill 5 0;", 7);
        fault(1, "fill 5 050 1;", 9);
        fault(1, "turn 5 4;", 7);
        fault(1, "turn 5 04;", 7);
        fault(1, "turn 5 4 4;", 7);
        fault(1, "turn 5 4", 7);
        fault(1, "turn 1 0;", 7);
        plays(3, "turn 1 11;", 1);
        plays(3, "turn 1 1;", 1);
        fault(3, "turn 11 10;", 8);
        fault(3, "turn 11 1;", 8);
        fault(3, "fill 10 9 1;", 8);
        plays(3, "fill 9 10 1;", 1);
    }

    /** "and it is the length of the text if the text ends too early" */
    private static void testTextEndsTooEarly() {
        String[] whole = {"set 0 1;", "add 0 -1;", "swap 0 1;", "fill 0 1 2;", "turn 0 1;"};
        for (String text : whole) {
            plays(1, text, 1);
            int word = text.indexOf(' ');
            for (int length = 1; length < text.length(); length++) {
                fault(1, text.substring(0, length), length < word ? 0 : length);
            }
            for (int length = word; length < text.length(); length++) {
                String blanks = text.substring(0, length) + "   ";
                boolean behindSign = text.charAt(length - 1) == '-';
                fault(1, blanks, behindSign ? length : length + 3);
            }
        }
    }

    /** "If a text has several faults, the one with the least index counts." */
    private static void testLeastFaultCounts() {
        fault(1, "set 8 100", 4);
        fault(1, "set 0 100 8", 8);
        fault(1, "set 0 1;;x", 8);
        fault(1, "set 0 1;x;", 8);
        fault(1, "x 8 100;", 0);
        fault(1, "swap 9 8;", 5);
        fault(1, "fill 9 8 100;", 5);
        fault(1, "fill 1 0 100;", 7);
        fault(1, "set 0 1;set 8 1;sat 0 1;", 12);
        fault(1, "set 0 1;sat 8 1;set 8 1;", 8);
    }

    /** ""set" gives a value": from 0 to 99 */
    private static void testSet() {
        makes(1, "set 0 99;set 1 0;set 7 99;", 99, 0, 2, 3, 4, 5, 6, 99);
        makes(1, "set 4 4;", 0, 1, 2, 3, 4, 5, 6, 7);
        makes(3, "set 11 99;set 10 0;", 0, 4, 2, 3, 1, 5, 6, 7, 1, 7, 0, 99);
    }

    /** ""add" adds the amount to a value, but the result is at least 0 and at most 99" */
    private static void testAdd() {
        int[][] rows = {
            {0, 0, 0}, {0, 99, 99}, {1, 98, 99}, {1, 99, 99}, {2, 97, 99}, {98, 1, 99}, {98, 2, 99}, {99, 0, 99},
            {99, 1, 99}, {99, 99, 99}, {50, 48, 98}, {50, 49, 99}, {50, 50, 99},
            {0, -1, 0}, {0, -99, 0}, {1, -1, 0}, {2, -1, 1}, {1, -2, 0}, {98, -99, 0}, {99, -99, 0}, {99, -98, 1},
            {50, -49, 1}, {50, -50, 0}, {50, -51, 0},
        };
        for (int[] row : rows) {
            StateVault x = Cases.played(1, "set 3 " + row[0] + ";add 3 " + row[1] + ";");
            due(row[0] + " + " + row[1], x.value(3), row[2]);
            due("the value beside it", x.value(2) + x.value(4), 0);
        }
        StateVault y = Cases.played(1, "set 0 98;add 0 9;add 0 -99;add 0 -5;add 0 3;");
        due("at each command, not at the end", y.value(0), 3);
    }

    /** ""swap" exchanges two values": the first and the last, either way round, and one with itself */
    private static void testSwap() {
        makes(1, "swap 0 7;", 7, 1, 2, 3, 4, 5, 6, 0);
        makes(1, "swap 7 0;", 7, 1, 2, 3, 4, 5, 6, 0);
        makes(1, "swap 3 3;", 0, 1, 2, 3, 4, 5, 6, 7);
        makes(2, "swap 9 0;", 7, 1, 2, 3, 4, 5, 6, 7, 1, 0);
    }

    /** ""fill" gives all values from the first to the second index a value": both ends with it, and one alone */
    private static void testFill() {
        makes(1, "fill 2 4 99;", 0, 1, 99, 99, 99, 5, 6, 7);
        makes(1, "fill 0 7 9;", 9, 9, 9, 9, 9, 9, 9, 9);
        makes(1, "fill 7 7 9;", 0, 1, 2, 3, 4, 5, 6, 9);
        makes(1, "fill 0 0 9;", 9, 1, 2, 3, 4, 5, 6, 7);
        makes(3, "fill 10 11 9;", 0, 4, 2, 3, 1, 5, 6, 7, 1, 7, 9, 9);
    }

    /** ""turn" moves each value ... on to the next number, up to the second index, whose value comes to the first" */
    private static void testTurn() {
        makes(1, "turn 0 7;", 7, 0, 1, 2, 3, 4, 5, 6);
        makes(1, "turn 2 4;", 0, 1, 4, 2, 3, 5, 6, 7);
        makes(1, "turn 6 7;", 0, 1, 2, 3, 4, 5, 7, 6);
        makes(1, "turn 5 5;", 0, 1, 2, 3, 4, 5, 6, 7);
        makes(3, "turn 10 11;", 0, 4, 2, 3, 1, 5, 6, 7, 1, 7, 50, 14);
    }
}
