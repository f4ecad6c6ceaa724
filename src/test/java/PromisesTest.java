/** The promises one by one, with answers found by hand from the document. */
public final class PromisesTest {
    private static final int NONE = -1, BAD = -2, STATE = -3, FULL = -4;
    private static final int MIN = Integer.MIN_VALUE, MAX = Integer.MAX_VALUE;
    private static final Check CHECK = new Check("promises");

    public static void main(String[] args) {
        testConstants();
        testNewObject();
        testType();
        testClear();
        testPlayCommands();
        testPlayWrittenForms();
        testPlayFaults();
        testPlayIndexFaults();
        testPlayFullText();
        testPlayIsOneChange();
        testRaise();
        testKeepWhole();
        testKeepDifference();
        testKeepLimits();
        testLoad();
        testDrop();
        testDropMending();
        testAlter();
        testPackChoice();
        testPackLimits();
        testPackUnreadable();
        testSet();
        testUndo();
        testUndoRestoresAll();
        testValue();
        testKept();
        testEntry();
        testRead();
        testCause();
        testApart();
        testFork();
        testNearest();
        testCount();
        testDigest();
        CHECK.finish();
    }

    private static void due(String call, long got, long want) {
        CHECK.due(call, got, want);
    }

    private static void write(StateVault x, String text) {
        x.clear();
        for (int i = 0; i < text.length(); i++) {
            x.type(text.charAt(i));
        }
    }

    private static int script(StateVault x, String text) {
        write(x, text);
        return x.play();
    }

    /** A script on a new object of a form, so that faults are seen without what came before. */
    private static int scriptOfForm(int form, String text) {
        StateVault x = new StateVault();
        for (int f = 1; f < form; f++) {
            x.raise();
        }
        return script(x, text);
    }

    private static void fault(int form, String text, int position) {
        due("form " + form + " \"" + text + "\"", scriptOfForm(form, text), -2000 - position);
    }

    private static void plays(int form, String text, int commands) {
        due("form " + form + " \"" + text + "\"", scriptOfForm(form, text), commands);
    }

    private static void values(String of, StateVault x, int... wanted) {
        for (int i = 0; i < wanted.length; i++) {
            due(of + ": value(" + i + ")", x.value(i), wanted[i]);
        }
        due(of + ": value(" + wanted.length + ")", x.value(wanted.length), NONE);
    }

    private static void readValues(String of, StateVault x, int kept, int form, int... wanted) {
        for (int i = 0; i < wanted.length; i++) {
            due(of + ": read(" + kept + ", " + form + ", " + i + ")", x.read(kept, form, i), wanted[i]);
        }
        due(of + ": no more of " + kept, x.read(kept, form, wanted.length), NONE);
    }

    private static void counts(String of, StateVault x, int... wanted) {
        for (int what = 0; what < wanted.length; what++) {
            due(of + ": count(" + what + ")", x.count(what), wanted[what]);
        }
    }

    private static void properties(String of, StateVault x, int kept, int... wanted) {
        for (int what = 0; what < wanted.length; what++) {
            due(of + ": kept(" + kept + ", " + what + ")", x.kept(kept, what), wanted[what]);
        }
    }

    private static int sumOf(int... values) {
        int sum = 7;
        for (int value : values) {
            sum = (31 * sum + value) % 9973;
        }
        return sum;
    }

    /** Kept states 0 to last, each a difference from the one before it in the value 0, which is its number + 1. */
    private static StateVault chain(int limit, int last) {
        StateVault x = new StateVault();
        x.set(0, limit);
        write(x, "add 0 1;");
        for (int k = 0; k <= last; k++) {
            x.play();
            x.keep();
        }
        return x;
    }

    private static void testConstants() {
        due("NONE", StateVault.NONE, NONE);
        due("BAD", StateVault.BAD, BAD);
        due("STATE", StateVault.STATE, STATE);
        due("FULL", StateVault.FULL, FULL);
    }

    private static void testNewObject() {
        StateVault x = new StateVault();
        values("new", x, 0, 0, 0, 0, 0, 0, 0, 0);
        counts("new", x, 1, NONE, sumOf(0, 0, 0, 0, 0, 0, 0, 0), 0, 0, 0, 0, 0, 0, 0, 0, 4, 1);
        due("new: undo()", x.undo(), STATE);
        StateVault y = new StateVault();
        y.raise();
        y.keep();
        y.type('a');
        counts("new beside another", x, 1, NONE, sumOf(0, 0, 0, 0, 0, 0, 0, 0), 0, 0, 0, 0, 0, 0, 0, 0, 4, 1);
    }

    private static void testType() {
        StateVault x = new StateVault();
        due("type(-1)", x.type(-1), BAD);
        due("type(128)", x.type(128), BAD);
        due("type(MIN)", x.type(MIN), BAD);
        due("type(MAX)", x.type(MAX), BAD);
        due("length after BAD", x.count(10), 0);
        for (int i = 1; i <= 80; i++) {
            due("type no. " + i, x.type(i % 2 == 0 ? 0 : 127), i);
        }
        due("type in full text", x.type(97), FULL);
        due("BAD comes before FULL", x.type(128), BAD);
        due("length stays", x.count(10), 80);
        due("typing is no change", x.count(9), 0);
        due("clear of full text", x.clear(), 80);
        due("type then", x.type(0), 1);
    }

    private static void testClear() {
        StateVault x = new StateVault();
        due("clear of empty text", x.clear(), 0);
        write(x, "set 0 1;");
        due("clear", x.clear(), 8);
        due("clear again", x.clear(), 0);
        due("no text left", x.count(10), 0);
        due("clear is no change", x.count(9), 0);
        due("play of nothing", x.play(), 0);
        due("value 0", x.value(0), 0);
    }

    private static void testPlayCommands() {
        StateVault x = new StateVault();
        due("set", script(x, "set 0 1;set 1 2;set 2 3;set 3 4;set 4 5;set 5 6;"), 6);
        due("set", script(x, "set 6 7;set 7 98;"), 2);
        values("set", x, 1, 2, 3, 4, 5, 6, 7, 98);
        due("add", script(x, "add 7 1;add 0 -1;add 1 97;"), 3);
        values("add", x, 0, 99, 3, 4, 5, 6, 7, 99);
        due("add beyond", script(x, "add 7 1;add 0 -1;add 1 99;add 2 -99;add 3 -4;add 4 95;"), 6);
        values("add beyond", x, 0, 99, 0, 0, 99, 6, 7, 99);
        due("set 0 back", script(x, "set 0 1;set 1 2;set 2 3;set 3 4;set 4 5;set 7 8;"), 6);
        due("swap", script(x, "swap 0 7;swap 6 1;swap 3 3;"), 3);
        values("swap", x, 8, 7, 3, 4, 5, 6, 2, 1);
        due("fill", script(x, "fill 2 4 77;fill 7 7 0;"), 2);
        values("fill", x, 8, 7, 77, 77, 77, 6, 2, 0);
        due("turn", script(x, "set 2 1;set 3 2;set 4 3;turn 1 4;turn 7 7;"), 5);
        values("turn", x, 8, 3, 7, 1, 2, 6, 2, 0);
        due("turn all", script(x, "turn 0 7;"), 1);
        values("turn all", x, 0, 8, 3, 7, 1, 2, 6, 2);
        due("the text stays", x.play(), 1);
        values("turn all again", x, 2, 0, 8, 3, 7, 1, 2, 6);
        StateVault y = new StateVault();
        y.raise();
        y.raise();
        due("form 3", script(y, "fill 0 11 5;set 10 7;turn 9 11;swap 0 11;add 11 -6;"), 5);
        values("form 3", y, 7, 5, 5, 5, 5, 5, 5, 5, 5, 5, 5, 0);
    }

    private static void testPlayWrittenForms() {
        plays(1, "", 0);
        plays(1, "   ", 0);
        plays(1, "set0 1;", 1);
        plays(1, "set00 01;", 1);
        plays(1, "  set  07  99  ;  ", 1);
        plays(1, "add 0-5;", 1);
        plays(1, "add 0 -5;", 1);
        plays(1, "add 07-99;", 1);
        plays(1, "add 0   -05 ;", 1);
        plays(1, "add1-1;add1-1;add1-1;add1-1;add1-1;add1-1;add1-1;add1-1;add1-1;add1-1;add1-1;", 11);
        plays(1, "swap 7 0;", 1);
        plays(1, "fill 0 07 5;", 1);
        plays(1, "turn 3 3;", 1);
        plays(2, "set 9 1;set 09 1;", 2);
        plays(3, "set 11 1;set 10 1;turn 2 11;", 3);
        StateVault x = new StateVault();
        due("many blanks", script(x, "   set   1   07   ;   add   1   -04   ;   "), 2);
        due("value 1", x.value(1), 3);
    }

    private static void testPlayFaults() {
        fault(1, "x", 0);
        fault(1, "  put 1 2;", 2);
        fault(1, "se", 0);
        fault(1, "se 1 2;", 0);
        fault(1, "sets 1 2;", 0);
        fault(1, "setadd 1 2;", 0);
        fault(1, "seta 1 2;", 0);
        fault(1, "setz 1 2;", 0);
        fault(1, "set`1 2;", 3);
        fault(1, "set{1 2;", 3);
        fault(1, "xet 1 2;", 0);
        fault(1, "sit 1 2;", 0);
        fault(1, "sex 1 2;", 0);
        fault(1, "bdd 1 2;", 0);
        fault(1, "swab 1 2;", 0);
        fault(1, "full 1 2 3;", 0);
        fault(1, "burn 1 2;", 0);
        fault(1, "set 1 /;", 6);
        fault(1, "set 1 :;", 6);
        fault(1, "Set 1 2;", 0);
        fault(1, "sEt 1 2;", 0);
        fault(1, "set 1 2;tur", 8);
        fault(1, ";", 0);
        fault(1, "1", 0);
        fault(1, "-", 0);
        fault(1, "set", 3);
        fault(1, "set  ", 5);
        fault(1, "set 1", 5);
        fault(1, "set 1 ", 6);
        fault(1, "set 1 2", 7);
        fault(1, "set 1 2 ", 8);
        fault(1, "set 1 2;;", 8);
        fault(1, "set;", 3);
        fault(1, "set x 1;", 4);
        fault(1, "set -1 1;", 4);
        fault(1, "add -1 1;", 4);
        fault(1, "set 1;", 5);
        fault(1, "set 1 -2;", 6);
        fault(1, "set 1-2;", 5);
        fault(1, "set 1 +2;", 6);
        fault(1, "set 1,2;", 5);
        fault(1, "set 1\t2;", 5);
        fault(1, "set 1 2 3;", 8);
        fault(1, "set 1 2-3;", 7);
        fault(1, "set 1 100;", 8);
        fault(1, "set 1 000;", 8);
        fault(1, "set 1 2set 1 2;", 7);
        fault(1, "set 001 2;", 6);
        fault(1, "set 0102;", 6);
        fault(1, "add 1 -", 7);
        fault(1, "add 1 - 2;", 7);
        fault(1, "add 1 --2;", 7);
        fault(1, "add 1 -;", 7);
        fault(1, "add 1 -100;", 9);
        fault(1, "add 1 -12", 9);
        fault(1, "add 1-1-1;", 7);
        fault(1, "add 1 x;", 6);
        fault(1, "swap 1;", 6);
        fault(1, "swap 1 -2;", 7);
        fault(1, "swap 1-2;", 6);
        fault(1, "swap 1 2 3;", 9);
        fault(1, "fill 1 2;", 8);
        fault(1, "fill 1 2 -3;", 9);
        fault(1, "fill 1 2 3 4;", 11);
        fault(1, "turn 1 2 3;", 9);
        fault(1, "turn 1 2 3", 9);
    }

    private static void testPlayIndexFaults() {
        fault(1, "set 8 1;", 4);
        fault(1, "set 08 1;", 4);
        fault(1, "set 10 1;", 4);
        fault(1, "set 800 1;", 4);
        fault(1, "set 8", 4);
        fault(1, "set 99", 4);
        fault(1, "set 123", 4);
        fault(1, "set 070 1;", 6);
        fault(2, "set 10 1;", 4);
        fault(2, "set 9 1;set 09 1;set 10 1;", 21);
        fault(3, "set 12 1;", 4);
        fault(3, "set 111 1;", 6);
        fault(3, "set 123 1;", 4);
        fault(1, "swap 1 8;", 7);
        fault(1, "swap 8 9;", 5);
        fault(1, "swap 1 8", 7);
        fault(1, "fill 5 4 1;", 7);
        fault(1, "fill 5 04 1;", 7);
        fault(1, "fill 5 041 1;", 7);
        fault(1, "fill 5 4", 7);
        fault(1, "fill 5 4x", 7);
        fault(1, "fill 5 8 1;", 7);
        fault(1, "fill 5 051 1;", 9);
        fault(1, "fill 5 5 100;", 11);
        fault(1, "turn 5 4;", 7);
        fault(1, "turn 1 0", 7);
        fault(1, "turn 1 00;", 7);
        fault(3, "turn 5 1;", 7);
        fault(3, "turn 11 10;", 8);
        fault(3, "turn 11 12;", 8);
        plays(3, "turn 5 11;", 1);
        plays(1, "swap 5 4;", 1);
    }

    /** Texts of 80 bytes, with whatever can stand at their end, and texts with older bytes behind them. */
    private static void testPlayFullText() {
        String seven = "add0 1;".repeat(10);
        plays(1, seven + "add1   1 ;", 11);
        plays(1, seven + "add1  99; ", 11);
        fault(1, seven + "add1     2", 80);
        fault(1, seven + "add1    02", 80);
        fault(1, seven + "add1     -", 80);
        fault(1, seven + "add1      ", 80);
        fault(1, seven + "add      1", 80);
        fault(1, seven + "add     01", 80);
        fault(1, seven + "       add", 80);
        fault(1, seven + "        ad", 78);
        fault(1, seven + "fill1    0", 79);
        fault(1, " ".repeat(79) + "8", 79);
        plays(1, " ".repeat(80), 0);
        StateVault x = new StateVault();
        write(x, "set 1 23;");
        due("ends before older bytes", script(x, "set 1 2"), -2007);
        write(x, "set 1 23;");
        due("ends before an older word", script(x, "se"), -2000);
        write(x, "        ;");
        due("ends before older blanks", script(x, "set 1"), -2005);
        write(x, "fill 1 1 1;");
        due("ends before an older semicolon", script(x, "fill 1 1 1"), -2010);
    }

    private static void testPlayIsOneChange() {
        StateVault x = new StateVault();
        due("two commands", script(x, "set 0 5;set 1 6;"), 2);
        due("one change", x.count(9), 1);
        due("fault after a command", script(x, "set 0 9;set 8 1;"), -2012);
        values("nothing changed", x, 5, 6, 0, 0, 0, 0, 0, 0);
        due("no change by a fault", x.count(9), 1);
        due("the text stays with a fault", x.count(10), 16);
        due("no commands", script(x, ""), 0);
        due("a change also then", x.count(9), 2);
        due("undo no commands", x.undo(), 1);
        due("undo both commands", x.undo(), 0);
        values("undone", x, 0, 0, 0, 0, 0, 0, 0, 0);
        due("origin of none", x.count(1), NONE);
        x.keep();
        script(x, "set 0 5;");
        due("play leaves the origin", x.count(1), 0);
    }

    private static void testRaise() {
        StateVault x = new StateVault();
        script(x, "set 0 1;set 1 2;set 2 5;set 4 44;set 7 30;");
        x.keep();
        due("raise to 2", x.raise(), 2);
        values("form 2", x, 1, 2, 5, 0, 44, 0, 0, 30, 2, 30);
        due("origin stays", x.count(1), 0);
        due("a change", x.count(9), 3);
        due("raise to 3", x.raise(), 3);
        values("form 3", x, 1, 44, 5, 0, 2, 0, 0, 30, 2, 30, 60, 50);
        due("raise beyond", x.raise(), STATE);
        due("no change then", x.count(9), 4);
        due("form", x.count(0), 3);
        StateVault y = new StateVault();
        y.raise();
        script(y, "set 9 49;");
        y.raise();
        due("twice 49", y.value(10), 98);
        StateVault z = new StateVault();
        script(z, "fill 0 2 99;set 7 50;");
        z.raise();
        due("a third of 297", z.value(8), 99);
        z.raise();
        due("twice 50, but at most 99", z.value(10), 99);
    }

    private static void testKeepWhole() {
        StateVault x = new StateVault();
        script(x, "set 0 3;set 7 98;");
        due("first", x.keep(), 0);
        properties("whole", x, 0, 1, sumOf(3, 0, 0, 0, 0, 0, 0, 98), NONE, 8, 1, 1, 8, 0);
        due("origin", x.count(1), 0);
        due("a change", x.count(9), 2);
        script(x, "fill 0 6 1;");
        due("seven entries", x.keep(), 1);
        due("are too many", x.kept(1, 2), NONE);
        script(x, "fill 0 5 2;");
        due("six entries", x.keep(), 2);
        due("are not too many", x.kept(2, 2), 1);
        x.alter(2, 0, 3);
        due("of an unreadable origin", x.keep(), 3);
        due("it is whole", x.kept(3, 2), NONE);
        due("and readable", x.kept(3, 5), 1);
        x.drop(3, false);
        due("without origin", x.keep(), 4);
        due("it is whole", x.kept(4, 2), NONE);
        StateVault y = chain(2, 2);
        due("chain as long as the limit", y.kept(1, 4), 2);
        due("so the next one is whole", y.kept(2, 2), NONE);
        due("and a difference from that", y.keep(), 3);
        due("base of that", y.kept(3, 2), 2);
        StateVault z = chain(8, 3);
        z.set(0, 2);
        due("chain beyond the limit", z.keep(), 4);
        due("whole", z.kept(4, 2), NONE);
        StateVault one = chain(1, 1);
        due("limit 1: always whole", one.kept(1, 2), NONE);
    }

    private static void testKeepDifference() {
        StateVault x = new StateVault();
        script(x, "set 0 3;set 1 4;");
        x.keep();
        due("nothing is different", x.keep(), 1);
        properties("no entries", x, 1, 1, sumOf(3, 4, 0, 0, 0, 0, 0, 0), 0, 0, 2, 1, 2, 0);
        script(x, "set 7 9;set 2 8;");
        due("two entries", x.keep(), 2);
        properties("two entries", x, 2, 1, sumOf(3, 4, 8, 0, 0, 0, 0, 9), 1, 2, 3, 1, 6, 0);
        due("ascending 0", x.entry(2, 0, 0), 2);
        due("ascending 0", x.entry(2, 0, 1), 8);
        due("ascending 1", x.entry(2, 1, 0), 7);
        due("ascending 1", x.entry(2, 1, 1), 9);
        x.raise();
        x.raise();
        script(x, "set 11 49;");
        due("of another form", x.keep(), 3);
        properties("of another form", x, 3, 3, sumOf(3, 0, 8, 0, 4, 0, 0, 9, 5, 9, 18, 49), 2, 1, 4, 1, 4, 0);
        due("entry 11", x.entry(3, 0, 0), 11);
        due("entry 49", x.entry(3, 0, 1), 49);
        due("undo forgets the number", x.undo() + x.count(7), 5 + 3);
        due("it is given again", x.keep(), 3);
    }

    private static void testKeepLimits() {
        StateVault x = new StateVault();
        for (int k = 0; k < 20; k++) {
            due("keep no. " + k, x.keep(), k);
        }
        due("20 kept states", x.keep(), FULL);
        due("no change", x.count(7), 20);
        due("16 are differences without entries", x.count(6), 5 * 8 + 15 * 2);
        due("pack 20", x.pack(), 70 - (8 + 19 * 2));
        due("undo pack", x.undo(), 5);
        due("drop of 20 with mending", x.drop(0, true), 0);
        due("undo drop", x.undo(), 5);
        for (int k = 20; k < 99; k++) {
            x.drop(k - 20, false);
            due("keep no. " + k, x.keep(), k);
        }
        x.drop(98, false);
        due("19 kept states", x.count(3), 19);
        due("99 have come", x.count(7), 99);
        due("no more can come", x.keep(), FULL);
        due("the last chain", x.kept(97, 4) > 0 ? 1 : 0, 1);
        x.undo();
        x.undo();
        due("undone, one more can come", x.count(7), 98);
        due("which is no. 98 again", x.keep(), 98);
    }

    private static void testLoad() {
        StateVault x = new StateVault();
        due("none there", x.load(0), BAD);
        due("negative", x.load(-1), BAD);
        due("MIN", x.load(MIN), BAD);
        due("MAX", x.load(MAX), BAD);
        script(x, "set 0 3;set 1 9;set 4 2;set 7 60;");
        x.keep();
        script(x, "fill 0 7 1;");
        x.keep();
        due("changes before", x.count(9), 4);
        due("load the first one", x.load(0), 1);
        values("loaded", x, 3, 9, 0, 0, 2, 0, 0, 60);
        due("a change", x.count(9), 5);
        due("origin", x.count(1), 0);
        x.raise();
        x.raise();
        x.keep();
        script(x, "fill 0 11 5;");
        due("raised to the form of the game", x.load(0), 3);
        values("raised", x, 3, 2, 0, 0, 9, 0, 0, 60, 4, 60, 99, 50);
        due("setting 1 is 0", x.set(1, 0), 1);
        due("not raised", x.load(0), 1);
        values("not raised", x, 3, 9, 0, 0, 2, 0, 0, 60);
        due("setting 1 is 1", x.set(1, 1), 0);
        due("the game gets the greater form", x.load(2), 3);
        values("of form 3", x, 3, 2, 0, 0, 9, 0, 0, 60, 4, 60, 99, 50);
        due("origin 2", x.count(1), 2);
        due("loading is a change", x.undo(), 5);
        due("form 1 again", x.count(0), 1);
        due("origin 0 again", x.count(1), 0);
        x.alter(2, 0, 99);
        x.alter(0, 0, 99);
        int history = x.count(9);
        due("unreadable", x.load(0), STATE);
        due("no change", x.count(9), history);
        x.drop(1, true);
        due("lost", x.load(1), BAD);
        StateVault y = new StateVault();
        y.keep();
        y.raise();
        y.keep();
        y.raise();
        due("from form 2 to 3", y.load(1), 3);
        due("setting 1 is 0", y.set(1, 0), 1);
        due("form 2", y.load(1), 2);
        due("form 2 goes on", y.keep(), 2);
        due("difference from 1", y.kept(2, 2), 1);
    }

    private static void testDrop() {
        StateVault x = chain(8, 3);
        due("not there", x.drop(4, true), BAD);
        due("negative", x.drop(-1, false), BAD);
        due("drop the last, which is the origin", x.drop(3, false), 0);
        due("origin", x.count(1), NONE);
        due("drop again", x.drop(3, false), BAD);
        x.load(2);
        due("drop another", x.drop(1, false), 1);
        due("origin stays", x.count(1), 2);
        due("the base is told still", x.kept(2, 2), 1);
        due("a lost base is a link", x.kept(2, 4), 2);
        due("cannot be read", x.kept(2, 5), 0);
        due("two are kept", x.count(3), 2);
        due("four have come", x.count(7), 4);
        due("numbers are not given again", x.keep(), 4);
        due("unreadable origin", x.kept(4, 2), NONE);
        due("a change", x.undo() + x.undo(), 9);
        readValues("undone", x, 2, 0, 3, 0, 0, 0, 0, 0, 0, 0);
    }

    private static void testDropMending() {
        StateVault x = new StateVault();
        script(x, "set 0 1;set 1 9;set 7 30;");
        x.keep();
        x.keep();
        x.load(0);
        x.raise();
        script(x, "set 3 7;");
        x.keep();
        script(x, "set 4 8;");
        x.keep();
        x.load(0);
        script(x, "set 5 5;");
        x.keep();
        x.alter(4, 0, 6);
        int sum = x.kept(2, 1);
        due("three have 0 as their base", x.kept(0, 7), 3);
        due("one of them cannot be read", x.drop(0, true), 1);
        properties("mended 1", x, 1, 1, sumOf(1, 9, 0, 0, 0, 0, 0, 30), NONE, 8, 1, 1, 8, 0);
        properties("mended 2", x, 2, 2, sum, NONE, 10, 1, 1, 10, 1);
        readValues("mended 2", x, 2, 0, 1, 9, 0, 7, 0, 0, 0, 30, 3, 30);
        due("not touched 3", x.kept(3, 2), 2);
        due("readable 3", x.kept(3, 5), 1);
        due("not touched 4", x.kept(4, 2), 0);
        due("not readable 4", x.cause(4, 0, 0), 2);
        due("lost base of 4", x.cause(4, 1, 0), 0);
        StateVault y = chain(8, 3);
        y.alter(0, 0, 50);
        due("unreadable base, none is mended", y.drop(1, true), 1);
        due("still a difference", y.kept(2, 2), 1);
        StateVault z = chain(8, 3);
        due("without mending", z.drop(1, false), 1);
        due("mending is one change", z.undo(), 5);
        due("with mending", z.drop(1, true), 0);
        due("mended", z.kept(2, 2), NONE);
        due("follower of it", z.kept(3, 2), 2);
        due("one change", z.undo(), 5);
        due("not mended any more", z.kept(2, 2), 1);
    }

    private static void testAlter() {
        StateVault x = new StateVault();
        due("none there", x.alter(0, 0, 0), BAD);
        script(x, "set 7 9;");
        x.keep();
        script(x, "set 3 5;set 6 8;");
        x.keep();
        due("negative number", x.alter(-1, 0, 0), BAD);
        due("no such number", x.alter(2, 0, 0), BAD);
        due("negative i", x.alter(0, -1, 0), BAD);
        due("i beyond values", x.alter(0, 8, 0), BAD);
        due("i beyond entries", x.alter(1, 2, 0), BAD);
        due("i MAX", x.alter(1, MAX, 0), BAD);
        due("value -1", x.alter(0, 0, -1), BAD);
        due("value 100", x.alter(0, 0, 100), BAD);
        due("no change", x.count(9), 4);
        int sum = x.kept(0, 1);
        due("value 7", x.alter(0, 7, 99), 9);
        due("is altered", x.entry(0, 7, 1), 99);
        due("sum stays", x.kept(0, 1), sum);
        due("a change", x.count(9), 5);
        due("cannot be read", x.read(0, 0, 0), STATE);
        due("reason", x.cause(0, 0, 0), 1);
        due("altered back", x.alter(0, 7, 9), 99);
        due("can be read", x.read(0, 0, 7), 9);
        due("entry 1", x.alter(1, 1, 0), 8);
        due("its number stays", x.entry(1, 1, 0), 6);
        due("its value", x.entry(1, 1, 1), 0);
        due("the first one can be read", x.kept(0, 5), 1);
        due("the second one cannot", x.kept(1, 5), 0);
        due("altered back", x.alter(1, 1, 8), 0);
        due("the same", x.alter(1, 1, 8), 8);
        due("can be read", x.kept(1, 5), 1);
        due("six are recorded", x.count(9), 6);
        due("undo of the same", x.undo(), 5);
        due("undo of back", x.undo(), 4);
        due("altered again", x.entry(1, 1, 1), 0);
        StateVault y = new StateVault();
        script(y, "set 0 1;");
        y.keep();
        y.alter(0, 0, 0);
        due("same sum by other values", y.alter(0, 1, 31), 0);
        due("is not seen", y.read(0, 0, 1), 31);
        y.drop(0, true);
        due("lost", y.alter(0, 0, 0), BAD);
    }

    private static void testPackChoice() {
        StateVault x = new StateVault();
        x.set(0, 1);
        due("pack nothing", x.pack(), 0);
        due("a change", x.count(9), 2);
        script(x, "set 0 1;set 1 1;set 2 1;");
        x.keep();
        script(x, "set 0 2;set 1 2;");
        x.keep();
        script(x, "set 1 1;");
        x.keep();
        script(x, "set 0 3;");
        x.keep();
        due("all are whole", x.count(6), 32);
        x.set(0, 8);
        due("pack", x.pack(), 32 - (8 + 6 + 4 + 4));
        due("0 is whole", x.kept(0, 2), NONE);
        due("1 has 2 entries", x.kept(1, 3), 2);
        due("2 is as near to 0 as to 1", x.kept(2, 2), 0);
        due("3 is as near to 0 as to 2", x.kept(3, 2), 0);
        due("nothing is left to do", x.pack(), 0);
        readValues("3 after it", x, 3, 0, 3, 1, 1, 0, 0, 0, 0, 0);
        StateVault y = new StateVault();
        script(y, "set 7 5;");
        y.keep();
        y.raise();
        y.keep();
        y.raise();
        y.keep();
        y.load(0);
        y.set(0, 1);
        due("weighs less", y.pack(), (8 + 2 + 2) - (8 + 10 + 12));
        due("limit 1: whole", y.kept(2, 2), NONE);
        y.set(0, 2);
        due("raised to its own form", y.pack(), (8 + 10 + 12) - (8 + 2 + 2));
        due("1 from 0", y.kept(1, 2), 0);
        due("2 from 0, not from 1", y.kept(2, 2), 0);
        readValues("2 after it", y, 2, 0, 0, 0, 0, 0, 0, 0, 0, 5, 0, 5, 10, 50);
    }

    private static void testPackLimits() {
        StateVault x = new StateVault();
        x.set(0, 1);
        x.keep();
        script(x, "fill 0 5 1;");
        x.keep();
        script(x, "fill 0 6 2;");
        x.keep();
        x.set(0, 4);
        due("six entries weigh more than eight values", x.pack(), 8 - 14);
        due("six entries", x.kept(1, 3), 6);
        due("seven entries are too many", x.kept(2, 2), NONE);
        StateVault z = chain(8, 3);
        due("chain of four", z.kept(3, 4), 4);
        z.set(0, 3);
        due("pack with fewer links", z.pack(), 0);
        due("0", z.kept(0, 2), NONE);
        due("1 from 0", z.kept(1, 2), 0);
        due("2 from 0", z.kept(2, 2), 0);
        StateVault w = new StateVault();
        w.set(0, 1);
        w.keep();
        script(w, "fill 0 1 1;");
        w.keep();
        script(w, "fill 0 3 1;");
        w.keep();
        script(w, "fill 0 5 1;");
        w.keep();
        w.set(0, 3);
        w.pack();
        due("1 from 0", w.kept(1, 2), 0);
        due("2 from 1", w.kept(2, 2), 1);
        due("3 not from 2, whose chain is full, but from 1", w.kept(3, 2), 1);
        due("four entries", w.kept(3, 3), 4);
        StateVault u = new StateVault();
        u.set(1, 0);
        u.keep();
        u.raise();
        u.keep();
        u.load(0);
        script(u, "set 7 3;");
        u.keep();
        u.drop(0, true);
        u.pack();
        due("1 has form 2", u.kept(1, 0), 2);
        due("2 has form 1 and cannot come from 1", u.kept(2, 2), NONE);
    }

    private static void testPackUnreadable() {
        StateVault x = chain(8, 4);
        x.alter(2, 0, 77);
        due("2 to 4 cannot be read", x.count(5), 3);
        due("nothing to win", x.pack(), 0);
        due("2 stays", x.kept(2, 2), 1);
        due("its entry stays", x.entry(2, 0, 1), 77);
        due("3 stays", x.kept(3, 2), 2);
        x.alter(2, 0, 3);
        due("all can be read again", x.count(5), 0);
        x.drop(0, false);
        due("none can be read", x.count(5), 4);
        due("pack leaves them", x.pack(), 0);
        due("1 keeps its lost base", x.kept(1, 2), 0);
        StateVault y = new StateVault();
        y.set(0, 1);
        y.keep();
        y.keep();
        y.keep();
        y.set(0, 4);
        y.alter(0, 0, 1);
        due("0 is no base", y.pack(), 8 - 2);
        due("1 is whole", y.kept(1, 2), NONE);
        due("2 from 1", y.kept(2, 2), 1);
        due("a change", y.undo(), 5);
        due("2 is whole again", y.kept(2, 2), NONE);
    }

    private static void testSet() {
        StateVault x = new StateVault();
        due("what -1", x.set(-1, 1), BAD);
        due("what 2", x.set(2, 1), BAD);
        due("what MIN", x.set(MIN, 1), BAD);
        due("limit 0", x.set(0, 0), BAD);
        due("limit 9", x.set(0, 9), BAD);
        due("raising -1", x.set(1, -1), BAD);
        due("raising 2", x.set(1, 2), BAD);
        due("no change", x.count(9), 0);
        due("limit 8", x.set(0, 8), 4);
        due("limit 1", x.set(0, 1), 8);
        due("the same", x.set(0, 1), 1);
        due("changes", x.count(9), 3);
        due("raising 0", x.set(1, 0), 1);
        due("raising 1", x.set(1, 1), 0);
        due("limit", x.count(11), 1);
        due("raising", x.count(12), 1);
        due("undo", x.undo(), 4);
        due("raising 0 again", x.count(12), 0);
    }

    private static void testUndo() {
        StateVault x = new StateVault();
        due("none", x.undo(), STATE);
        write(x, "add 0 1;");
        for (int i = 0; i < 9; i++) {
            x.play();
        }
        due("at most six", x.count(9), 6);
        for (int left = 5; left >= 0; left--) {
            due("left", x.undo(), left);
            due("value with " + left + " left", x.value(0), 3 + left);
        }
        due("no more", x.undo(), STATE);
        due("the text is no part of it", x.count(10), 8);
        due("play goes on", x.play(), 1);
        due("from there", x.value(0), 4);
        due("one to undo", x.undo(), 0);
        due("none to undo", x.undo(), STATE);
        due("value stays", x.value(0), 3);
    }

    private static void testUndoRestoresAll() {
        StateVault x = chain(8, 2);
        long before = x.digest();
        int history = x.count(9);
        due("full history", history, 6);
        x.undo();
        long shorter = x.digest();
        due("keep again", x.keep(), 2);
        due("as before", x.digest(), before);
        x.undo();
        due("as before it", x.digest(), shorter);
        long[] digests = new long[6];
        StateVault y = chain(8, 3);
        while (y.undo() > 0) {
            due("undo goes down", y.count(9) < 6 ? 1 : 0, 1);
        }
        int[] changes = new int[6];
        for (int i = 0; i < 6; i++) {
            digests[i] = y.digest();
            changes[i] = change(y, i);
        }
        for (int i = 5; i >= 0; i--) {
            due("undo of change " + i, y.undo(), i);
            due("state before change " + i, y.digest(), digests[i]);
        }
        due("the same changes again", change(y, 0), changes[0]);
        StateVault z = new StateVault();
        z.keep();
        script(z, "set 5 9;");
        z.keep();
        z.drop(0, false);
        z.drop(1, false);
        z.keep();
        z.undo();
        z.undo();
        due("number of the entry that was dropped", z.entry(1, 0, 0), 5);
        due("its base", z.kept(1, 2), 0);
        due("undo of the drop of its base", z.undo(), 3);
        readValues("again", z, 1, 0, 0, 0, 0, 0, 0, 9, 0, 0);
    }

    private static int change(StateVault x, int which) {
        switch (which) {
            case 0: return x.alter(0, 7, 3);
            case 1: return x.alter(0, 7, 0);
            case 2: return x.drop(0, true);
            case 3: return x.raise();
            case 4: return x.keep();
            default: return x.set(0, 3);
        }
    }

    private static void testValue() {
        StateVault x = new StateVault();
        script(x, "set 7 42;");
        due("value(-1)", x.value(-1), BAD);
        due("value(MIN)", x.value(MIN), BAD);
        due("value(7)", x.value(7), 42);
        due("value(8)", x.value(8), NONE);
        due("value(MAX)", x.value(MAX), NONE);
        x.raise();
        due("value(9) in form 2", x.value(9), 42);
        due("value(10) in form 2", x.value(10), NONE);
        x.raise();
        due("value(11) in form 3", x.value(11), 50);
        due("value(12) in form 3", x.value(12), NONE);
        x.undo();
        x.undo();
        due("value(8) in form 1 again", x.value(8), NONE);
    }

    private static void testKept() {
        StateVault x = chain(8, 2);
        due("kept(-1, 0)", x.kept(-1, 0), BAD);
        due("kept(MIN, 0)", x.kept(MIN, 0), BAD);
        due("kept(0, -1)", x.kept(0, -1), BAD);
        due("kept(0, 8)", x.kept(0, 8), BAD);
        due("kept(3, 8)", x.kept(3, 8), BAD);
        due("kept(3, 0)", x.kept(3, 0), NONE);
        due("kept(MAX, 7)", x.kept(MAX, 7), NONE);
        properties("0", x, 0, 1, sumOf(1, 0, 0, 0, 0, 0, 0, 0), NONE, 8, 1, 1, 8, 1);
        properties("1", x, 1, 1, sumOf(2, 0, 0, 0, 0, 0, 0, 0), 0, 1, 2, 1, 4, 1);
        properties("2", x, 2, 1, sumOf(3, 0, 0, 0, 0, 0, 0, 0), 1, 1, 3, 1, 4, 0);
        x.load(1);
        x.raise();
        x.keep();
        properties("3", x, 3, 2, sumOf(2, 0, 0, 0, 0, 0, 0, 0, 0, 0), 1, 0, 3, 1, 2, 0);
        due("two have 1 as their base", x.kept(1, 7), 2);
        x.drop(1, false);
        due("lost", x.kept(1, 0), NONE);
        due("none have 0 as their base", x.kept(0, 7), 0);
        properties("2 without its base", x, 2, 1, sumOf(3, 0, 0, 0, 0, 0, 0, 0), 1, 1, 2, 0, 4, 0);
    }

    private static void testEntry() {
        StateVault x = new StateVault();
        due("none there", x.entry(0, 0, 0), NONE);
        script(x, "set 0 3;set 7 9;");
        x.keep();
        script(x, "set 6 5;set 2 4;");
        x.keep();
        due("entry(-1, 0, 0)", x.entry(-1, 0, 0), BAD);
        due("entry(0, -1, 0)", x.entry(0, -1, 0), BAD);
        due("entry(0, 0, -1)", x.entry(0, 0, -1), BAD);
        due("entry(0, 0, 2)", x.entry(0, 0, 2), BAD);
        due("entry(5, 0, 2)", x.entry(5, 0, 2), BAD);
        due("entry(2, 0, 0)", x.entry(2, 0, 0), NONE);
        due("entry(MAX, MAX, 1)", x.entry(MAX, MAX, 1), NONE);
        due("number of a value", x.entry(0, 7, 0), 7);
        due("value", x.entry(0, 7, 1), 9);
        due("beyond values", x.entry(0, 8, 0), NONE);
        due("number of entry 0", x.entry(1, 0, 0), 2);
        due("value of entry 0", x.entry(1, 0, 1), 4);
        due("number of entry 1", x.entry(1, 1, 0), 6);
        due("value of entry 1", x.entry(1, 1, 1), 5);
        due("beyond entries", x.entry(1, 2, 1), NONE);
        x.drop(0, false);
        due("lost", x.entry(0, 0, 0), NONE);
        due("entries of what cannot be read", x.entry(1, 1, 1), 5);
    }

    private static void testRead() {
        StateVault x = new StateVault();
        script(x, "set 0 1;set 1 2;set 2 6;set 4 44;set 7 30;");
        x.keep();
        x.raise();
        script(x, "set 3 7;");
        x.keep();
        readValues("own form", x, 0, 0, 1, 2, 6, 0, 44, 0, 0, 30);
        readValues("form 1", x, 0, 1, 1, 2, 6, 0, 44, 0, 0, 30);
        readValues("form 2", x, 0, 2, 1, 2, 6, 0, 44, 0, 0, 30, 3, 30);
        readValues("form 3", x, 0, 3, 1, 44, 6, 0, 2, 0, 0, 30, 3, 30, 60, 50);
        readValues("own form 2", x, 1, 0, 1, 2, 6, 7, 44, 0, 0, 30, 3, 30);
        readValues("2 to 3", x, 1, 3, 1, 44, 6, 7, 2, 0, 0, 30, 3, 30, 60, 50);
        due("less than its own", x.read(1, 1, 0), BAD);
        due("form -1", x.read(0, -1, 0), BAD);
        due("form 4", x.read(0, 4, 0), BAD);
        due("form MAX", x.read(0, MAX, 0), BAD);
        due("i -1", x.read(0, 0, -1), BAD);
        due("i MAX", x.read(0, 3, MAX), NONE);
        due("number 2", x.read(2, 0, 0), BAD);
        due("number -1", x.read(-1, 0, 0), BAD);
        x.alter(0, 0, 2);
        due("altered", x.read(0, 0, 0), STATE);
        due("base altered", x.read(1, 3, 0), STATE);
        due("STATE before NONE", x.read(0, 0, 12), STATE);
        due("BAD before STATE", x.read(1, 1, 0), BAD);
        due("BAD before STATE for i", x.read(0, 0, -1), BAD);
        x.drop(0, true);
        due("lost", x.read(0, 0, 0), BAD);
    }

    private static void testCause() {
        StateVault x = new StateVault();
        due("has not come", x.cause(0, 0, 0), BAD);
        x = chain(8, 3);
        due("kept -1", x.cause(-1, 0, 0), BAD);
        due("kept 4", x.cause(4, 0, 0), BAD);
        due("depth -1", x.cause(0, -1, 0), BAD);
        due("what -1", x.cause(0, 0, -1), BAD);
        due("what 2", x.cause(0, 0, 2), BAD);
        due("can be read", x.cause(3, 0, 0), NONE);
        due("can be read, deep", x.cause(3, 1, 1), NONE);
        x.alter(0, 0, 99);
        for (int depth = 0; depth < 3; depth++) {
            due("reason at " + depth, x.cause(3, depth, 0), 2);
            due("of at " + depth, x.cause(3, depth, 1), 3 - depth);
        }
        due("reason at 3", x.cause(3, 3, 0), 1);
        due("of at 3", x.cause(3, 3, 1), 0);
        due("too deep", x.cause(3, 4, 0), NONE);
        due("too deep by far", x.cause(3, MAX, 1), NONE);
        due("0 itself", x.cause(0, 0, 0), 1);
        due("0 itself", x.cause(0, 0, 1), 0);
        due("0 has no cause", x.cause(0, 1, 0), NONE);
        x.drop(0, false);
        due("lost", x.cause(0, 0, 0), 0);
        due("lost is itself", x.cause(0, 0, 1), 0);
        due("lost has no cause", x.cause(0, 1, 0), NONE);
        due("lost at the end", x.cause(3, 3, 0), 0);
        due("lost one", x.cause(3, 3, 1), 0);
        due("the sum is not looked at without a base", x.cause(1, 0, 0), 2);
        StateVault y = chain(8, 3);
        y.alter(2, 0, 9);
        y.alter(0, 0, 9);
        due("the base comes first", y.cause(2, 0, 0), 2);
        due("the deepest", y.cause(2, 2, 0), 1);
    }

    private static void testApart() {
        StateVault x = new StateVault();
        script(x, "set 0 3;set 1 7;set 7 5;");
        x.keep();
        script(x, "set 2 9;set 3 9;");
        x.keep();
        x.load(0);
        x.raise();
        x.raise();
        x.keep();
        due("itself", x.apart(1, 1), 0);
        due("two values", x.apart(0, 1), 2);
        due("two values turned", x.apart(1, 0), 2);
        due("raised", x.apart(0, 2), 0);
        due("raised, three values", x.apart(1, 2), 3);
        due("raised, three values, turned", x.apart(2, 1), 3);
        due("bad one", x.apart(3, 0), BAD);
        due("bad other", x.apart(0, 3), BAD);
        due("negative", x.apart(-1, 0), BAD);
        due("negative other", x.apart(0, -1), BAD);
        x.alter(1, 0, 0);
        due("one cannot be read", x.apart(1, 0), STATE);
        due("the other cannot be read", x.apart(2, 1), STATE);
        due("itself cannot be read", x.apart(1, 1), STATE);
        due("BAD before STATE", x.apart(1, 3), BAD);
        due("BAD before STATE, turned", x.apart(3, 1), BAD);
        due("others can", x.apart(2, 0), 0);
    }

    private static void testFork() {
        StateVault x = chain(8, 3);
        x.load(1);
        x.keep();
        x.load(4);
        x.keep();
        due("fork(3, 5)", x.fork(3, 5), 1);
        due("fork(5, 3)", x.fork(5, 3), 1);
        due("in the chain of the other", x.fork(5, 4), 4);
        due("in the chain of the other, turned", x.fork(1, 3), 1);
        due("itself", x.fork(3, 3), 3);
        due("bad one", x.fork(6, 0), BAD);
        due("bad other", x.fork(0, 6), BAD);
        due("negative", x.fork(-1, -1), BAD);
        x.drop(1, false);
        due("a lost base is in both", x.fork(3, 5), 1);
        due("and ends them", x.fork(3, 0), NONE);
        due("the lost one itself", x.fork(1, 3), BAD);
        due("the lost one itself, turned", x.fork(3, 1), BAD);
        x.drop(2, true);
        due("another lost one", x.fork(3, 5), NONE);
        due("another lost one, turned", x.fork(5, 3), NONE);
        due("itself without a base", x.fork(3, 3), 3);
    }

    private static void testNearest() {
        StateVault x = new StateVault();
        due("none", x.nearest(), NONE);
        x.set(1, 0);
        script(x, "set 0 1;set 7 2;");
        x.keep();
        script(x, "set 1 1;");
        x.keep();
        script(x, "set 2 1;");
        due("one value", x.nearest(), 1);
        script(x, "set 1 0;");
        due("two of one value", x.nearest(), 0);
        x.keep();
        due("the same", x.nearest(), 2);
        x.alter(2, 0, 50);
        due("unreadable", x.nearest(), 0);
        x.load(0);
        x.raise();
        x.keep();
        due("raised, of several the least", x.nearest(), 0);
        x.load(1);
        due("a greater form is not looked at", x.nearest(), 1);
        x.drop(1, true);
        due("nearest of the rest", x.nearest(), 0);
        x.drop(0, false);
        due("none that can be read", x.nearest(), NONE);
        StateVault y = new StateVault();
        y.raise();
        y.raise();
        y.keep();
        script(y, "fill 0 11 99;");
        due("all values are different", y.nearest(), 0);
    }

    private static void testCount() {
        StateVault x = new StateVault();
        x.keep();
        due("the longest chain of one", x.count(8), 1);
        due("count(-1)", x.count(-1), BAD);
        due("count(13)", x.count(13), BAD);
        due("count(MIN)", x.count(MIN), BAD);
        x = chain(3, 4);
        x.raise();
        x.keep();
        x.drop(1, false);
        x.set(1, 0);
        write(x, "abc");
        counts("mixed", x, 2, 5, sumOf(5, 0, 0, 0, 0, 0, 0, 0, 1, 0), 5, 2, 1, 8 + 4 + 8 + 4 + 2, 6, 3, 6, 3, 3, 0);
        x.drop(5, false);
        counts("without origin", x, 2, NONE, sumOf(5, 0, 0, 0, 0, 0, 0, 0, 1, 0), 4, 2, 1, 24, 6, 2, 6, 3, 3, 0);
    }

    /** The hash of promise 22, written from the answers of the other promises. */
    private static long hashOf(StateVault x, String text) {
        long hash = 176;
        for (int what = 0; what <= 12; what++) {
            hash = 31 * hash + x.count(what);
        }
        for (int i = 0; x.value(i) != NONE; i++) {
            hash = 31 * hash + x.value(i);
        }
        for (int k = 0; k < x.count(7); k++) {
            if (x.kept(k, 0) != NONE) {
                hash = 31 * hash + k;
                for (int what = 0; what <= 7; what++) {
                    hash = 31 * hash + x.kept(k, what);
                }
                for (int i = 0; i < x.kept(k, 3); i++) {
                    hash = 31 * hash + x.entry(k, i, 0);
                    hash = 31 * hash + x.entry(k, i, 1);
                }
                hash = 31 * hash + x.cause(k, 0, 0);
            }
        }
        hash = 31 * hash + x.nearest();
        for (int i = 0; i < text.length(); i++) {
            hash = 31 * hash + text.charAt(i);
        }
        return hash;
    }

    private static void testDigest() {
        StateVault x = new StateVault();
        due("new", x.digest(), hashOf(x, ""));
        x.raise();
        x.keep();
        due("kept", x.digest(), hashOf(x, ""));
        StateVault y = chain(8, 3);
        y.alter(2, 0, 9);
        due("broken", y.digest(), hashOf(y, "add 0 1;"));
        y.drop(1, false);
        due("lost base", y.digest(), hashOf(y, "add 0 1;"));
        write(y, "\u0000\u007f~");
        due("other text", y.digest(), hashOf(y, "\u0000\u007f~"));
        due("digest changes nothing", y.digest(), hashOf(y, "\u0000\u007f~"));
        due("a fixed number", new StateVault().digest(), hashOfNew());
    }

    /** All numbers of a new object's hash, by hand. */
    private static long hashOfNew() {
        int[] numbers = {
            1, NONE, sumOf(0, 0, 0, 0, 0, 0, 0, 0), 0, 0, 0, 0, 0, 0, 0, 0, 4, 1,
            0, 0, 0, 0, 0, 0, 0, 0, NONE,
        };
        long hash = 176;
        for (int number : numbers) {
            hash = 31 * hash + number;
        }
        return hash;
    }
}
