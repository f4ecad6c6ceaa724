import java.math.BigInteger;
import java.util.ArrayList;
import java.util.List;

/**
 * The sentences of promises 1 to 22 that name a boundary, a test each: the last input that is taken, the first
 * one that is refused, that this changes nothing, and the empty, the full and the equal case.
 */
public final class PromiseBoundariesTest {
    private static final int NONE = Cases.NONE, BAD = Cases.BAD, STATE = Cases.STATE, FULL = Cases.FULL;
    private static final int MIN = Cases.MIN, MAX = Cases.MAX;
    private static final Cases CASES = new Cases(new Check("boundaries of the promises"));

    private interface NumberCall {
        long ask(StateVault x, int kept);
    }

    public static void main(String[] args) {
        testNewObject();
        testTyping();
        testClear();
        testPlay();
        testRaise();
        testKeep();
        testLoading();
        testDropping();
        testAltering();
        testPacking();
        testSetting();
        testUndo();
        testValue();
        testKept();
        testEntries();
        testReads();
        testCauses();
        testAparts();
        testForks();
        testNearests();
        testCounts();
        testDigest();
        CASES.finish();
    }

    private static void due(String what, long got, long want) {
        CASES.due(what, got, want);
    }

    /** Four have come: 0 whole, 1 and 2 differences from the one before, 3 lost; 2 is the origin. */
    private static StateVault some() {
        StateVault x = Cases.chain(4, 3);
        x.drop(3, false);
        x.load(2);
        return x;
    }

    /** The same with 0 altered, so that none of them can be read. */
    private static StateVault broken() {
        StateVault x = some();
        x.alter(0, 0, 77);
        return x;
    }

    /** "BAD if there is no such kept state (any more)", for the call of a change or of a question. */
    private static void badNumbers(String what, NumberCall call) {
        CASES.refused(what + " of -1", PromiseBoundariesTest::some, x -> call.ask(x, -1), BAD);
        CASES.refused(what + " of the least number", PromiseBoundariesTest::some, x -> call.ask(x, MIN), BAD);
        CASES.refused(what + " of a lost one", PromiseBoundariesTest::some, x -> call.ask(x, 3), BAD);
        CASES.refused(what + " of one that has not come", PromiseBoundariesTest::some, x -> call.ask(x, 4), BAD);
        CASES.refused(what + " of the greatest number", PromiseBoundariesTest::some, x -> call.ask(x, MAX), BAD);
        CASES.refused(what + " if there is none", Cases::fresh, x -> call.ask(x, 0), BAD);
    }

    /** "BAD if kept is negative ...; NONE if there is no such kept state (any more)" */
    private static void noneNumbers(String what, NumberCall call) {
        CASES.refused(what + " of -1", PromiseBoundariesTest::some, x -> call.ask(x, -1), BAD);
        CASES.refused(what + " of the least number", PromiseBoundariesTest::some, x -> call.ask(x, MIN), BAD);
        CASES.tells(what + " of a lost one", PromiseBoundariesTest::some, x -> call.ask(x, 3), NONE);
        CASES.tells(what + " of one that has not come", PromiseBoundariesTest::some, x -> call.ask(x, 4), NONE);
        CASES.tells(what + " of the greatest number", PromiseBoundariesTest::some, x -> call.ask(x, MAX), NONE);
        CASES.tells(what + " if there is none", Cases::fresh, x -> call.ask(x, 0), NONE);
    }

    // Promise 1

    /** "Creates a game as at first, without kept states, with an empty text." */
    private static void testNewObject() {
        int[] counts = {1, NONE, 3545, 0, 0, 0, 0, 0, 0, 0, 0, 4, 1};
        for (int what = 0; what < counts.length; what++) {
            due("new: count(" + what + ")", Cases.fresh().count(what), counts[what]);
        }
        CASES.values("new", Cases.fresh(), 0, 0, 0, 0, 0, 0, 0, 0);
        CASES.tells("new: kept(0, 0)", Cases::fresh, x -> x.kept(0, 0), NONE);
        CASES.refused("new: cause(0, 0, 0)", Cases::fresh, x -> x.cause(0, 0, 0), BAD);
        CASES.refused("new: undo()", Cases::fresh, StateVault::undo, STATE);
    }

    // Promise 2

    private static void testTyping() {
        testLetters();
        testLengthThen();
        testFullText();
    }

    /** "letter: 0 to 127 ... Returns ...; BAD" */
    private static void testLetters() {
        due("type(0)", Cases.fresh().type(0), 1);
        due("type(127)", Cases.fresh().type(127), 1);
        CASES.refused("type(-1)", Cases::fresh, x -> x.type(-1), BAD);
        CASES.refused("type(128)", Cases::fresh, x -> x.type(128), BAD);
        CASES.refused("type(256 + 'a')", Cases::fresh, x -> x.type(256 + 'a'), BAD);
        CASES.refused("type of the least", Cases::fresh, x -> x.type(MIN), BAD);
        CASES.refused("type of the greatest", Cases::fresh, x -> x.type(MAX), BAD);
    }

    /** "Returns the length of the text then" */
    private static void testLengthThen() {
        StateVault x = Cases.fresh();
        for (int length = 1; length <= 80; length++) {
            due("type no. " + length, x.type(length), length);
            due("length", x.count(10), length);
        }
    }

    /** "FULL if it has 80 bytes" */
    private static void testFullText() {
        Cases.Maker full = () -> Cases.written(1, "x".repeat(80));
        due("the 80th byte", Cases.written(1, "x".repeat(79)).type('x'), 80);
        CASES.refused("the 81st byte", full, x -> x.type('x'), FULL);
        CASES.refused("BAD comes first", full, x -> x.type(-1), BAD);
    }

    // Promise 3

    /** "Empties the text. Returns the length that it had." */
    private static void testClear() {
        CASES.tells("clear of no text", Cases::fresh, StateVault::clear, 0);
        due("clear of one byte", Cases.written(1, "x").clear(), 1);
        due("clear of a full text", Cases.written(1, "x".repeat(80)).clear(), 80);
        StateVault x = Cases.written(1, "x".repeat(80));
        x.clear();
        due("no text then", x.count(10), 0);
        due("as new", x.digest(), Cases.fresh().digest());
        due("again", x.clear(), 0);
    }

    // Promise 4

    private static void testPlay() {
        testNumberOfCommands();
        testFaultOfPlay();
        testTextOfPlayStays();
    }

    /** "This is one change (also if it has no commands). Returns the number of commands" */
    private static void testNumberOfCommands() {
        CASES.changes("no commands", Cases::fresh, StateVault::play, 0);
        CASES.changes("one command", () -> Cases.written(1, "add0 1;"), StateVault::play, 1);
        CASES.changes("the most commands", () -> Cases.written(1, "add0 1;".repeat(11)), StateVault::play, 11);
        due("all are carried out", Cases.played(1, "add0 9;".repeat(11)).value(0), 99);
    }

    /** "-2000 - p if the text has the fault p" */
    private static void testFaultOfPlay() {
        CASES.refused("fault 0", () -> Cases.written(1, "x"), StateVault::play, -2000);
        CASES.refused("fault 1", () -> Cases.written(1, " x"), StateVault::play, -2001);
        CASES.refused("fault 79", () -> Cases.written(1, "add0 1;".repeat(11) + "  x"), StateVault::play, -2079);
        CASES.refused("fault 80", () -> Cases.written(1, "add0 1;".repeat(10) + "  set 0 11"), StateVault::play, -2080);
    }

    /** "Carries out the script of the text, which stays" */
    private static void testTextOfPlayStays() {
        StateVault x = Cases.played(1, "add0 9;".repeat(11) + "   ");
        due("length", x.count(10), 80);
        due("again", x.play(), 11);
        StateVault y = Cases.written(1, "add0 9;x");
        due("a fault", y.play(), -2007);
        due("the text stays with a fault, too", y.count(10), 8);
        due("and has it again", y.play(), -2007);
        y.clear();
        due("without the text, no fault", y.play(), 0);
        due("another text, no fault", Cases.script(y, "add0 9;"), 1);
        due("another fault", Cases.script(y, " x"), -2001);
    }

    // Promise 5

    /** "Returns the form then; STATE if it has the form 3." and "its origin stays" */
    private static void testRaise() {
        CASES.changes("from the form 1", Cases::fresh, StateVault::raise, 2);
        CASES.changes("from the form 2", () -> Cases.ofForm(2), StateVault::raise, 3);
        CASES.refused("from the form 3", () -> Cases.ofForm(3), StateVault::raise, STATE);
        CASES.refused("from a kept one of the form 3", () -> Cases.keptOne(3, ""), StateVault::raise, STATE);
        StateVault x = Cases.keptOne(1, "");
        x.raise();
        due("origin", x.count(1), 0);
        StateVault y = Cases.ofForm(2);
        due("no origin", y.count(1), NONE);
    }

    // Promise 6

    /** "Returns the number of the new kept state; FULL if there are 20 kept states, or 99 have come." */
    private static void testKeep() {
        CASES.changes("the first one", Cases::fresh, StateVault::keep, 0);
        CASES.changes("the 20th", () -> Cases.keptTimes(19), StateVault::keep, 19);
        CASES.refused("20 kept states", () -> Cases.keptTimes(20), StateVault::keep, FULL);
        CASES.changes("the 99th", () -> Cases.cameTimes(98, 2), StateVault::keep, 98);
        CASES.refused("99 have come", () -> Cases.cameTimes(99, 2), StateVault::keep, FULL);
    }

    // Promise 7

    private static void testLoading() {
        testLoad();
        testLoadUnreadable();
        testLoadRaises();
        testLoadWithoutRaising();
        testLoadChoosesOrigin();
    }

    /** "BAD if there is no such kept state (any more)" */
    private static void testLoad() {
        CASES.changes("load of the first", PromiseBoundariesTest::some, x -> x.load(0), 1);
        CASES.changes("load of the last", PromiseBoundariesTest::some, x -> x.load(2), 1);
        badNumbers("load", StateVault::load);
    }

    /** "STATE if it cannot be read" */
    private static void testLoadUnreadable() {
        CASES.refused("load of an altered one", PromiseBoundariesTest::broken, x -> x.load(0), STATE);
        CASES.refused("load of one whose base is altered", PromiseBoundariesTest::broken, x -> x.load(2), STATE);
        CASES.refused("BAD of a lost one", PromiseBoundariesTest::broken, x -> x.load(3), BAD);
        CASES.refused("load of one whose base is lost", PromiseBoundariesTest::lostBase, x -> x.load(1), STATE);
        CASES.changes("load beside it", PromiseBoundariesTest::lostBase, x -> x.load(2), 1);
    }

    /** 0 is lost, 1 was a difference from it, 2 is whole. */
    private static StateVault lostBase() {
        StateVault x = Cases.keptTwo(1, "", "set 0 5;");
        x.drop(0, false);
        x.keep();
        return x;
    }

    /** "If the setting 1 is 1, and the form of the game is greater than its own, it is raised" */
    private static void testLoadRaises() {
        for (int own = 1; own <= 3; own++) {
            int kept = own;
            for (int form = own; form <= 3; form++) {
                int game = form;
                Cases.Maker maker = () -> raised(kept, game);
                CASES.changes("form " + own + " in a game of form " + form, maker, x -> x.load(0), form);
                StateVault x = maker.make();
                Cases.script(x, "fill 0 " + (5 + 2 * form) + " 1;");
                x.load(0);
                due("form then", x.count(0), form);
                due("first value", x.value(0), 0);
                due("last value", x.value(5 + 2 * form), form == 3 ? 50 : 8);
            }
        }
    }

    /** One of a form is kept, its last value 8 or 50, and the game raised to another form. */
    private static StateVault raised(int own, int game) {
        String[] scripts = {"set 7 8;", "set 9 8;", "set 11 50;"};
        StateVault x = Cases.keptOne(own, scripts[own - 1]);
        for (int form = own; form < game; form++) {
            x.raise();
        }
        return x;
    }

    /** "otherwise the game gets its form" */
    private static void testLoadWithoutRaising() {
        for (int own = 1; own <= 3; own++) {
            int kept = own;
            for (int form = own; form <= 3; form++) {
                int game = form;
                Cases.Maker maker = () -> {
                    StateVault x = raised(kept, game);
                    x.set(1, 0);
                    return x;
                };
                CASES.changes("form " + own + " in a game of form " + form, maker, x -> x.load(0), own);
                StateVault x = maker.make();
                Cases.script(x, "fill 0 " + (5 + 2 * form) + " 1;");
                x.load(0);
                due("first value", x.value(0), 0);
                due("last value", x.value(5 + 2 * own), own == 3 ? 50 : 8);
                due("no more values", x.value(6 + 2 * own), NONE);
            }
        }
        StateVault greater = Cases.keptOne(1, "");
        greater.raise();
        greater.raise();
        greater.keep();
        greater.set(1, 0);
        greater.load(0);
        greater.set(1, 1);
        due("a greater form than that of the game", greater.load(1), 3);
        due("values of it", greater.value(11), 50);
    }

    /** "it becomes the origin" */
    private static void testLoadChoosesOrigin() {
        StateVault x = some();
        due("origin", x.count(1), 2);
        x.load(0);
        due("origin of the first", x.count(1), 0);
        StateVault y = broken();
        y.load(1);
        due("origin after STATE", y.count(1), 2);
        y.load(3);
        due("origin after BAD", y.count(1), 2);
    }

    // Promise 8

    private static void testDropping() {
        testDrop();
        testDropOrigin();
        testDropCountsDifferences();
        testMending();
        testMendingOfUnreadable();
    }

    /** "BAD if there is no such kept state (any more)" */
    private static void testDrop() {
        CASES.changes("drop of the first", PromiseBoundariesTest::some, x -> x.drop(0, false), 1);
        CASES.changes("drop of the last", PromiseBoundariesTest::some, x -> x.drop(2, false), 0);
        CASES.changes("drop of the first with mending", PromiseBoundariesTest::some, x -> x.drop(0, true), 0);
        CASES.changes("drop of one that cannot be read", PromiseBoundariesTest::broken, x -> x.drop(1, true), 1);
        CASES.changes("drop of one whose base is lost", PromiseBoundariesTest::lostBase, x -> x.drop(1, true), 0);
        CASES.changes("drop of the only one", () -> Cases.keptOne(1, ""), x -> x.drop(0, true), 0);
        CASES.changes("drop of the last of 20", () -> Cases.keptTimes(20), x -> x.drop(19, true), 0);
        badNumbers("drop", (x, kept) -> x.drop(kept, false));
        badNumbers("drop with mending", (x, kept) -> x.drop(kept, true));
    }

    /** "which is lost then; if it is the origin, there is none" */
    private static void testDropOrigin() {
        StateVault x = some();
        x.drop(1, false);
        due("another one than the origin", x.count(1), 2);
        due("lost", x.cause(1, 0, 0), 0);
        x.drop(2, false);
        due("the origin", x.count(1), NONE);
        x.undo();
        due("undone", x.count(1), 2);
    }

    /** "Returns the number of differences that have it as their base still" */
    private static void testDropCountsDifferences() {
        for (int differences = 0; differences <= 19; differences++) {
            StateVault x = manyFromOne(differences);
            due("differences", x.kept(0, 7), differences);
            due("drop with " + differences, x.drop(0, false), differences);
            x.undo();
            due("mend with " + differences, x.drop(0, true), 0);
            due("whole ones then", x.count(4), differences);
        }
    }

    /** Number 0 is whole, and as many others as are told are differences from it. */
    private static StateVault manyFromOne(int differences) {
        StateVault x = Cases.keptOne(1, "set 0 5;");
        Cases.write(x, "add 0 1;");
        for (int i = 0; i < differences; i++) {
            x.load(0);
            x.play();
            x.keep();
        }
        return x;
    }

    /** "becomes whole first (with the values that are read, in its own form, its sum and its number; ...)" */
    private static void testMending() {
        StateVault x = Cases.keptOne(1, "set 1 9;set 7 60;");
        x.raise();
        x.raise();
        x.keep();
        int sum = x.kept(1, 1);
        x.keep();
        due("drop", x.drop(0, true), 0);
        int[] properties = {3, sum, NONE, 12, 1, 1, 12, 1};
        for (int what = 0; what < properties.length; what++) {
            due("kept(1, " + what + ")", x.kept(1, what), properties[what]);
        }
        CASES.reads("mended", x, 1, 0, 0, 0, 0, 0, 9, 0, 0, 60, 3, 60, 99, 50);
        due("others are not touched", x.kept(2, 2), 1);
        due("nor do they weigh more", x.kept(2, 6), 2);
    }

    /** "each difference that has it as its base and that can be read ...; others are not touched" */
    private static void testMendingOfUnreadable() {
        StateVault x = manyFromOne(2);
        x.alter(1, 0, 77);
        due("one of two cannot be read", x.drop(0, true), 1);
        due("it stays a difference", x.kept(1, 2), 0);
        due("its entry stays", x.entry(1, 0, 1), 77);
        due("it lacks its base", x.cause(1, 1, 0), 0);
        due("the other one is whole", x.kept(2, 2), NONE);
        StateVault y = manyFromOne(2);
        y.alter(0, 7, 1);
        due("none of two can be read", y.drop(0, true), 2);
        due("both stay", y.count(4), 0);
    }

    // Promise 9

    private static void testAltering() {
        testAlterNumbers();
        testAlterParts();
        testAlterValues();
        testAlterOfUnreadable();
    }

    /** "BAD if there is no such kept state (any more)" */
    private static void testAlterNumbers() {
        CASES.changes("alter the first", PromiseBoundariesTest::some, x -> x.alter(0, 0, 5), 1);
        CASES.changes("alter the last", PromiseBoundariesTest::some, x -> x.alter(2, 0, 5), 3);
        badNumbers("alter", (x, kept) -> x.alter(kept, 0, 5));
    }

    /** "the value number i of a whole one, or the value of the entry number i of a difference" */
    private static void testAlterParts() {
        for (int form = 1; form <= 3; form++) {
            int own = form;
            int last = 5 + 2 * form;
            Cases.Maker whole = () -> Cases.keptOne(own, "set " + last + " 8;");
            CASES.changes("value 0", whole, x -> x.alter(0, 0, 5), 0);
            CASES.changes("last value", whole, x -> x.alter(0, last, 5), 8);
            CASES.refused("no value", whole, x -> x.alter(0, last + 1, 5), BAD);
            CASES.refused("value -1", whole, x -> x.alter(0, -1, 5), BAD);
            CASES.refused("value of the least number", whole, x -> x.alter(0, MIN, 5), BAD);
            CASES.refused("value of the greatest number", whole, x -> x.alter(0, MAX, 5), BAD);
        }
        Cases.Maker six = () -> Cases.keptTwo(1, "", "fill 2 6 9;set 7 8;");
        CASES.changes("entry 0", six, x -> x.alter(1, 0, 5), 9);
        CASES.changes("entry 5", six, x -> x.alter(1, 5, 5), 8);
        CASES.refused("entry 6", six, x -> x.alter(1, 6, 5), BAD);
        CASES.refused("entry 7, a value of a whole one", six, x -> x.alter(1, 7, 5), BAD);
        CASES.refused("entry -1", six, x -> x.alter(1, -1, 5), BAD);
        CASES.refused("entry 0 of none", () -> Cases.keptTwo(1, "", ""), x -> x.alter(1, 0, 5), BAD);
        StateVault x = six.make();
        x.alter(1, 5, 5);
        due("it is the value 7", x.entry(1, 5, 0), 7);
        due("it is altered", x.entry(1, 5, 1), 5);
        due("the others are not", x.entry(1, 4, 1), 9);
    }

    /** "value: 0 to 99 ... also if it is the same; its sum stays ... Returns the value before" */
    private static void testAlterValues() {
        Cases.Maker maker = () -> Cases.keptOne(1, "set 0 42;");
        CASES.changes("to 0", maker, x -> x.alter(0, 0, 0), 42);
        CASES.changes("to 99", maker, x -> x.alter(0, 0, 99), 42);
        CASES.changes("to the same", maker, x -> x.alter(0, 0, 42), 42);
        CASES.refused("to -1", maker, x -> x.alter(0, 0, -1), BAD);
        CASES.refused("to 100", maker, x -> x.alter(0, 0, 100), BAD);
        CASES.refused("to the least number", maker, x -> x.alter(0, 0, MIN), BAD);
        CASES.refused("to the greatest number", maker, x -> x.alter(0, 0, MAX), BAD);
        StateVault x = maker.make();
        int sum = x.kept(0, 1);
        x.alter(0, 0, 42);
        due("to the same: can be read", x.kept(0, 5), 1);
        x.alter(0, 0, 99);
        due("to 99: sum stays", x.kept(0, 1), sum);
        due("to 99: cannot be read", x.kept(0, 5), 0);
        due("the game is not altered", x.value(0), 42);
    }

    /** A kept state that cannot be read can be altered still. */
    private static void testAlterOfUnreadable() {
        CASES.changes("an altered one", PromiseBoundariesTest::broken, x -> x.alter(0, 0, 1), 77);
        CASES.changes("one whose base is altered", PromiseBoundariesTest::broken, x -> x.alter(1, 0, 1), 2);
        CASES.changes("one whose base is lost", PromiseBoundariesTest::lostBase, x -> x.alter(1, 0, 1), 5);
    }

    // Promise 10

    private static void testPacking() {
        testPackNone();
        testPackUnreadable();
        testPackForms();
        testPackLinks();
        testPackSix();
        testPackFewest();
        testPackWeighs();
        testPackTwenty();
    }

    /** "This is a change.": also of no kept states */
    private static void testPackNone() {
        CASES.changes("no kept states", Cases::fresh, StateVault::pack, 0);
        CASES.changes("only one", () -> Cases.keptOne(1, ""), StateVault::pack, 0);
        CASES.changes("none that can be read", PromiseBoundariesTest::broken, StateVault::pack, 0);
    }

    /** "those that cannot be read stay as they are, and are no bases for others" */
    private static void testPackUnreadable() {
        StateVault x = Cases.twoWhole();
        x.keep();
        x.alter(0, 0, 1);
        x.set(0, 4);
        due("pack", x.pack(), 6);
        due("0 stays", x.kept(0, 2), NONE);
        due("1 is no difference from it", x.kept(1, 2), NONE);
        due("2 is one from 1", x.kept(2, 2), 1);
        StateVault y = broken();
        y.set(0, 1);
        y.pack();
        due("a difference that cannot be read stays", y.kept(2, 2), 1);
        StateVault z = some();
        z.set(0, 1);
        due("pack at the limit 1", z.pack(), 8 + 4 + 4 - 24);
        due("all that can be read are whole", z.count(4), 3);
    }

    /** "whose form is at most its own" */
    private static void testPackForms() {
        for (int first = 1; first <= 3; first++) {
            for (int second = 1; second <= 3; second++) {
                StateVault x = twoForms(first, second);
                x.pack();
                due("form " + second + " after form " + first, x.kept(2, 2), first <= second ? 1 : NONE);
                due("its form stays", x.kept(2, 0), second);
                due("all can be read", x.count(5), 0);
            }
        }
    }

    /** Number 1 of one form and number 2 of another, both whole and alike but for that; number 0 is lost. */
    private static StateVault twoForms(int first, int second) {
        StateVault x = Cases.fresh();
        x.set(0, 1);
        x.set(1, 0);
        x.keep();
        for (int form = 1; form < first; form++) {
            x.raise();
        }
        x.keep();
        x.load(0);
        for (int form = 1; form < second; form++) {
            x.raise();
        }
        x.keep();
        x.drop(0, true);
        x.set(0, 4);
        return x;
    }

    /** "whose chain has fewer links than the limit" */
    private static void testPackLinks() {
        for (int limit = 1; limit <= 8; limit++) {
            StateVault x = spread();
            x.set(0, limit);
            x.pack();
            due("limit " + limit + ": longest chain", x.count(8), limit);
            // Those behind these are too far from what can be a base.
            int last = Math.min(8, limit + 4);
            for (int k = 0; k <= last; k++) {
                int base = limit == 1 ? NONE : Math.min(k - 1, limit - 2);
                due("limit " + limit + ": base of " + k, x.kept(k, 2), base);
            }
        }
    }

    /** Nine whole ones; each differs from each lesser one in as many values as its number is greater. */
    private static StateVault spread() {
        StateVault x = Cases.fresh();
        x.set(0, 1);
        x.keep();
        for (int k = 0; k < 8; k++) {
            Cases.script(x, "set " + k + " 1;");
            x.keep();
        }
        return x;
    }

    /** "it is different in the fewest values, if they are at most 6" */
    private static void testPackSix() {
        for (int form = 1; form <= 3; form++) {
            int size = 6 + 2 * form;
            for (int different = 0; different <= 8; different++) {
                StateVault x = Cases.ofForm(form);
                x.set(0, 1);
                x.keep();
                Cases.script(x, different == 0 ? "" : "fill 0 " + (different - 1) + " 1;");
                x.keep();
                x.set(0, 2);
                boolean few = different <= 6;
                due(different + " of form " + form, x.pack(), few ? size - (2 + 2 * different) : 0);
                due("base", x.kept(1, 2), few ? 0 : NONE);
                due("size", x.kept(1, 3), few ? different : size);
                due("can be read", x.kept(1, 5), 1);
            }
        }
    }

    /** "in the fewest values ...; of several from the one with the least number" */
    private static void testPackFewest() {
        StateVault x = Cases.fresh();
        x.set(0, 1);
        String[] scripts = {"set 0 1;", "set 0 2;", "set 0 3;set 1 1;", "set 1 2;", "set 0 2;set 1 0;"};
        for (String script : scripts) {
            Cases.script(x, script);
            x.keep();
        }
        x.set(0, 8);
        x.pack();
        due("1 from the only one", x.kept(1, 2), 0);
        due("2, as near to 0 as to 1", x.kept(2, 2), 0);
        due("3, nearest to 2", x.kept(3, 2), 2);
        due("4, the same as 1", x.kept(4, 2), 1);
        due("without entries", x.kept(4, 3), 0);
    }

    /** "Returns how much less all kept states weigh then than before (it can be negative)." */
    private static void testPackWeighs() {
        CASES.changes("as before at the limit 1", Cases::twoWhole, StateVault::pack, 0);
        CASES.changes("less by six", () -> loosened("", 4), StateVault::pack, 6);
        CASES.changes("less by nothing", () -> loosened("fill 0 2 1;", 4), StateVault::pack, 0);
        CASES.changes("more by two", () -> loosened("fill 0 3 1;", 4), StateVault::pack, -2);
        CASES.changes("more by four", () -> loosened("fill 0 4 1;", 4), StateVault::pack, -4);
        CASES.changes("more by six", () -> loosened("fill 0 5 1;", 4), StateVault::pack, -6);
        CASES.changes("as before, a chain", PromiseBoundariesTest::some, StateVault::pack, 0);
    }

    /** Two whole ones, the second one by a script, and then another limit of links. */
    private static StateVault loosened(String script, int limit) {
        StateVault x = Cases.fresh();
        x.set(0, 1);
        x.keep();
        Cases.script(x, script);
        x.keep();
        x.set(0, limit);
        return x;
    }

    /** "Packs all kept states that can be read when it is called": also as many as there can be */
    private static void testPackTwenty() {
        StateVault x = Cases.chain(1, 19);
        due("weight before", x.count(6), 160);
        x.set(0, 8);
        due("pack", x.pack(), 160 - (8 + 19 * 4));
        due("19 differences from 0", x.kept(0, 7), 19);
        x.set(0, 1);
        due("pack", x.pack(), 8 + 19 * 4 - 160);
        due("20 whole ones", x.count(4), 20);
    }

    // Promise 11

    /** "what: its number; value: the new value, in its range. Returns the value before; BAD." */
    private static void testSetting() {
        CASES.changes("set(0, 1)", Cases::fresh, x -> x.set(0, 1), 4);
        CASES.changes("set(0, 8)", Cases::fresh, x -> x.set(0, 8), 4);
        CASES.changes("set(1, 0)", Cases::fresh, x -> x.set(1, 0), 1);
        CASES.changes("set(1, 1)", Cases::fresh, x -> x.set(1, 1), 1);
        int[][] bad = {
            {-1, 1}, {2, 1}, {MIN, 1}, {MAX, 1}, {0, 0}, {0, 9}, {0, -1}, {0, MIN}, {0, MAX},
            {1, -1}, {1, 2}, {1, 4}, {1, MIN}, {1, MAX},
        };
        for (int[] row : bad) {
            CASES.refused("set(" + row[0] + ", " + row[1] + ")", Cases::fresh, x -> x.set(row[0], row[1]), BAD);
        }
        StateVault x = Cases.fresh();
        x.set(0, 8);
        x.set(1, 0);
        due("value before 0", x.set(0, 1), 8);
        due("value before 1", x.set(1, 1), 0);
        due("setting 0", x.count(11), 1);
        due("setting 1", x.count(12), 1);
    }

    // Promise 12

    /** "Returns how many states are left in the history; STATE if there is none." */
    private static void testUndo() {
        CASES.refused("none", Cases::fresh, StateVault::undo, STATE);
        StateVault x = Cases.ofForm(2);
        due("the only one", x.undo(), 0);
        due("none are left", x.undo(), STATE);
        due("still", x.undo(), STATE);
        due("as new", x.digest(), Cases.fresh().digest());
        StateVault y = Cases.keptTimes(7);
        for (int left = 5; left >= 0; left--) {
            due("undo of seven", y.undo(), left);
        }
        due("only six", y.undo(), STATE);
        due("one is kept still", y.count(7), 1);
    }

    // Promise 13

    /** "Returns the value; BAD if i is negative; NONE if there are not so many." */
    private static void testValue() {
        for (int form = 1; form <= 3; form++) {
            int last = 5 + 2 * form;
            int own = form;
            Cases.Maker maker = () -> Cases.played(own, "set 0 9;set " + last + " 8;");
            CASES.tells("value(0)", maker, x -> x.value(0), 9);
            CASES.tells("last value", maker, x -> x.value(last), 8);
            CASES.tells("one too many", maker, x -> x.value(last + 1), NONE);
            CASES.tells("value(12)", maker, x -> x.value(12), NONE);
            CASES.tells("value of the greatest number", maker, x -> x.value(MAX), NONE);
            CASES.refused("value(-1)", maker, x -> x.value(-1), BAD);
            CASES.refused("value of the least number", maker, x -> x.value(MIN), BAD);
        }
    }

    // Promise 14

    private static void testKept() {
        testKeptNumbers();
        testKeptProperties();
        testKeptWeights();
    }

    /** "BAD if kept is negative or what is out of range; NONE if there is no such kept state (any more)" */
    private static void testKeptNumbers() {
        noneNumbers("kept", (x, kept) -> x.kept(kept, 0));
        noneNumbers("kept, 7", (x, kept) -> x.kept(kept, 7));
        CASES.tells("what 0", PromiseBoundariesTest::some, x -> x.kept(0, 0), 1);
        CASES.tells("what 7", PromiseBoundariesTest::some, x -> x.kept(0, 7), 1);
        CASES.refused("what -1", PromiseBoundariesTest::some, x -> x.kept(0, -1), BAD);
        CASES.refused("what 8", PromiseBoundariesTest::some, x -> x.kept(0, 8), BAD);
        CASES.refused("what of the least", PromiseBoundariesTest::some, x -> x.kept(0, MIN), BAD);
        CASES.refused("what of the greatest", PromiseBoundariesTest::some, x -> x.kept(0, MAX), BAD);
        CASES.refused("BAD comes before NONE", PromiseBoundariesTest::some, x -> x.kept(3, 8), BAD);
    }

    /** "2: its base (NONE if it is whole); ... 5: 1 if it can be read, otherwise 0; ... 7: how many differences" */
    private static void testKeptProperties() {
        int[][] wanted = {
            {1, sumOfFirst(1), NONE, 8, 1, 1, 8, 1}, {1, sumOfFirst(2), 0, 1, 2, 1, 4, 1},
            {1, sumOfFirst(3), 1, 1, 3, 1, 4, 0},
        };
        StateVault x = some();
        for (int k = 0; k < wanted.length; k++) {
            for (int what = 0; what <= 7; what++) {
                due("kept(" + k + ", " + what + ")", x.kept(k, what), wanted[k][what]);
            }
        }
        x = broken();
        for (int k = 0; k < wanted.length; k++) {
            due("cannot be read", x.kept(k, 5), 0);
            due("its base is told still", x.kept(k, 2), wanted[k][2]);
        }
        x.drop(1, false);
        due("a lost base is told still", x.kept(2, 2), 1);
        due("its links", x.kept(2, 4), 2);
        due("no difference from 0 any more", x.kept(0, 7), 0);
    }

    /** The sum of eight values of which only the first one is not 0. */
    private static int sumOfFirst(int value) {
        int sum = (31 * 7 + value) % 9973;
        for (int i = 1; i < 8; i++) {
            sum = 31 * sum % 9973;
        }
        return sum;
    }

    /** "6: what it weighs: the number of its values if it is whole, otherwise 2 + twice the number of its entries" */
    private static void testKeptWeights() {
        for (int form = 1; form <= 3; form++) {
            due("whole of form " + form, Cases.keptOne(form, "").kept(0, 6), 6 + 2 * form);
            due("without entries", Cases.keptTwo(form, "", "").kept(1, 6), 2);
            for (int entries = 1; entries <= 6; entries++) {
                StateVault x = Cases.keptTwo(form, "", "fill 0 " + (entries - 1) + " 1;");
                due("with " + entries + " entries", x.kept(1, 6), 2 + 2 * entries);
            }
            due("of seven", Cases.keptTwo(form, "", "fill 0 6 1;").kept(1, 6), 6 + 2 * form);
        }
    }

    // Promise 15

    private static void testEntries() {
        testEntryNumbers();
        testEntryParts();
    }

    /** "BAD if kept or i is negative or what is out of range; NONE if there is no such kept state (any more)" */
    private static void testEntryNumbers() {
        noneNumbers("entry", (x, kept) -> x.entry(kept, 0, 0));
        noneNumbers("entry, 1", (x, kept) -> x.entry(kept, 0, 1));
        Cases.Maker maker = PromiseBoundariesTest::some;
        CASES.refused("what -1", maker, x -> x.entry(0, 0, -1), BAD);
        CASES.refused("what 2", maker, x -> x.entry(0, 0, 2), BAD);
        CASES.refused("i -1", maker, x -> x.entry(0, -1, 0), BAD);
        CASES.refused("i of the least", maker, x -> x.entry(0, MIN, 0), BAD);
        CASES.refused("BAD of what before NONE of a lost one", maker, x -> x.entry(3, 0, 2), BAD);
        CASES.refused("BAD of i before NONE of a lost one", maker, x -> x.entry(3, -1, 0), BAD);
        CASES.refused("BAD of what before NONE of i", maker, x -> x.entry(0, 8, 2), BAD);
        CASES.refused("BAD of kept before NONE of i", maker, x -> x.entry(-1, 8, 0), BAD);
    }

    /** "or it has not so many" */
    private static void testEntryParts() {
        for (int form = 1; form <= 3; form++) {
            int own = form;
            int last = 5 + 2 * form;
            Cases.Maker whole = () -> Cases.keptOne(own, "set " + last + " 8;");
            CASES.tells("number of the last value", whole, x -> x.entry(0, last, 0), last);
            CASES.tells("last value", whole, x -> x.entry(0, last, 1), 8);
            CASES.tells("no more values", whole, x -> x.entry(0, last + 1, 0), NONE);
            CASES.tells("value of the greatest number", whole, x -> x.entry(0, MAX, 1), NONE);
        }
        Cases.Maker six = () -> Cases.keptTwo(3, "", "fill 6 11 8;");
        CASES.tells("number of the entry 0", six, x -> x.entry(1, 0, 0), 6);
        CASES.tells("number of the entry 5", six, x -> x.entry(1, 5, 0), 11);
        CASES.tells("value of the entry 5", six, x -> x.entry(1, 5, 1), 8);
        CASES.tells("no entry 6", six, x -> x.entry(1, 6, 0), NONE);
        CASES.tells("no entry 6", six, x -> x.entry(1, 6, 1), NONE);
        CASES.tells("no entries", () -> Cases.keptTwo(1, "", ""), x -> x.entry(1, 0, 0), NONE);
    }

    // Promise 16

    private static void testReads() {
        testReadNumbers();
        testReadForms();
        testReadValues();
        testReadErrorsInOrder();
    }

    /** "BAD if there is no such kept state (any more)" */
    private static void testReadNumbers() {
        CASES.tells("the first", PromiseBoundariesTest::some, x -> x.read(0, 0, 0), 1);
        CASES.tells("the last", PromiseBoundariesTest::some, x -> x.read(2, 0, 0), 3);
        badNumbers("read", (x, kept) -> x.read(kept, 0, 0));
    }

    /** "form is out of range or less than its own form (0 is allowed)" */
    private static void testReadForms() {
        for (int own = 1; own <= 3; own++) {
            int kept = own;
            Cases.Maker maker = () -> Cases.keptOne(kept, "set 0 9;");
            for (int form = -1; form <= 4; form++) {
                int asked = form;
                String what = "form " + own + " read as " + form;
                if (form == 0 || form >= own && form <= 3) {
                    CASES.tells(what, maker, x -> x.read(0, asked, 0), 9);
                } else {
                    CASES.refused(what, maker, x -> x.read(0, asked, 0), BAD);
                }
            }
            CASES.refused("the least form", maker, x -> x.read(0, MIN, 0), BAD);
            CASES.refused("the greatest form", maker, x -> x.read(0, MAX, 0), BAD);
        }
    }

    /** "or i is negative; ... NONE if there are not so many values": by the form that is asked for */
    private static void testReadValues() {
        for (int own = 1; own <= 3; own++) {
            for (int form = own; form <= 3; form++) {
                readLastValue(own, form, form);
            }
            readLastValue(own, 0, own);
        }
    }

    /** Reads at the end of the values of a state of its own form, raised to the form that is asked for. */
    private static void readLastValue(int own, int asked, int form) {
        int last = 5 + 2 * form;
        int[] lastValues = {60, 60, 50};
        String script = own == 1 ? "set 7 60;" : own == 2 ? "set 9 60;" : "set 11 50;";
        Cases.Maker maker = () -> Cases.keptOne(own, script);
        String what = "form " + own + " read as " + asked;
        CASES.tells(what + ": last value", maker, x -> x.read(0, asked, last), lastValues[form - 1]);
        CASES.tells(what + ": no more values", maker, x -> x.read(0, asked, last + 1), NONE);
        CASES.tells(what + ": value of the greatest number", maker, x -> x.read(0, asked, MAX), NONE);
        CASES.refused(what + ": value -1", maker, x -> x.read(0, asked, -1), BAD);
        CASES.refused(what + ": value of the least number", maker, x -> x.read(0, asked, MIN), BAD);
    }

    /** "STATE if it cannot be read": after BAD, and before NONE */
    private static void testReadErrorsInOrder() {
        CASES.refused("altered", PromiseBoundariesTest::broken, x -> x.read(0, 0, 0), STATE);
        CASES.refused("its base is altered", PromiseBoundariesTest::broken, x -> x.read(2, 0, 0), STATE);
        CASES.refused("its base is lost", PromiseBoundariesTest::lostBase, x -> x.read(1, 3, 0), STATE);
        CASES.refused("STATE before NONE", PromiseBoundariesTest::broken, x -> x.read(0, 0, 8), STATE);
        CASES.refused("STATE before NONE", PromiseBoundariesTest::broken, x -> x.read(0, 3, MAX), STATE);
        CASES.refused("BAD of i before STATE", PromiseBoundariesTest::broken, x -> x.read(0, 0, -1), BAD);
        CASES.refused("BAD of the form before STATE", PromiseBoundariesTest::broken, x -> x.read(0, 4, 0), BAD);
        CASES.refused("BAD of the form before NONE", PromiseBoundariesTest::some, x -> x.read(0, 4, 12), BAD);
        CASES.refused("BAD of a lost one before NONE", PromiseBoundariesTest::some, x -> x.read(3, 0, 8), BAD);
    }

    // Promise 17

    private static void testCauses() {
        testCauseNumbers();
        testCauseDepths();
        testCauseWhat();
    }

    /** "kept: its number, also one that is lost; it must have come ... BAD if an argument is out of range" */
    private static void testCauseNumbers() {
        Cases.Maker maker = PromiseBoundariesTest::some;
        CASES.tells("of one that can be read", maker, x -> x.cause(0, 0, 0), NONE);
        CASES.tells("of one that is lost", maker, x -> x.cause(3, 0, 0), 0);
        CASES.tells("of one that is lost, itself", maker, x -> x.cause(3, 0, 1), 3);
        CASES.refused("of one that has not come", maker, x -> x.cause(4, 0, 0), BAD);
        CASES.refused("of -1", maker, x -> x.cause(-1, 0, 0), BAD);
        CASES.refused("of the least number", maker, x -> x.cause(MIN, 0, 0), BAD);
        CASES.refused("of the greatest number", maker, x -> x.cause(MAX, 0, 0), BAD);
        CASES.refused("if none has come", Cases::fresh, x -> x.cause(0, 0, 0), BAD);
        CASES.tells("of number 98", () -> Cases.cameTimes(99, 1), x -> x.cause(98, 0, 0), NONE);
        CASES.tells("of the lost number 97", () -> Cases.cameTimes(99, 1), x -> x.cause(97, 0, 0), 0);
        CASES.refused("of number 99", () -> Cases.cameTimes(99, 1), x -> x.cause(99, 0, 0), BAD);
        CASES.refused("of one that came before undo()", PromiseBoundariesTest::undone, x -> x.cause(0, 0, 0), BAD);
    }

    private static StateVault undone() {
        StateVault x = Cases.keptOne(1, "");
        x.undo();
        return x;
    }

    /** "depth: 0 for the reason itself ... NONE if it can be read, or there is no such cause" */
    private static void testCauseDepths() {
        Cases.Maker maker = PromiseBoundariesTest::broken;
        CASES.tells("depth 0", maker, x -> x.cause(2, 0, 0), 2);
        CASES.tells("depth 1", maker, x -> x.cause(2, 1, 0), 2);
        CASES.tells("depth 2", maker, x -> x.cause(2, 2, 0), 1);
        CASES.tells("depth 3", maker, x -> x.cause(2, 3, 0), NONE);
        CASES.tells("the greatest depth", maker, x -> x.cause(2, MAX, 0), NONE);
        CASES.refused("depth -1", maker, x -> x.cause(2, -1, 0), BAD);
        CASES.refused("the least depth", maker, x -> x.cause(2, MIN, 0), BAD);
        CASES.refused("depth -1 of one that can be read", PromiseBoundariesTest::some, x -> x.cause(2, -1, 0), BAD);
        CASES.tells("depth 1 of one that can be read", PromiseBoundariesTest::some, x -> x.cause(2, 1, 0), NONE);
        CASES.tells("depth 1 of a lost one", PromiseBoundariesTest::some, x -> x.cause(3, 1, 0), NONE);
        CASES.tells("depth 1 of an altered one", maker, x -> x.cause(0, 1, 0), NONE);
        CASES.tells("a lost base at depth 1", PromiseBoundariesTest::lostBase, x -> x.cause(1, 1, 0), 0);
        CASES.tells("nothing at depth 2", PromiseBoundariesTest::lostBase, x -> x.cause(1, 2, 0), NONE);
        StateVault longest = longest();
        due("links", longest.kept(8, 4), 9);
        due("the last cause of nine", longest.cause(8, 8, 1), 0);
        due("no more of nine", longest.cause(8, 9, 1), NONE);
    }

    /** A chain of nine links: 0 is altered, and 1 was packed as a difference from it, with 2 to 8 behind it. */
    private static StateVault longest() {
        StateVault x = Cases.fresh();
        x.set(0, 1);
        Cases.write(x, "add 0 1;");
        x.play();
        x.keep();
        x.play();
        x.keep();
        x.set(0, 8);
        for (int k = 2; k <= 8; k++) {
            x.play();
            x.keep();
        }
        x.alter(2, 0, 77);
        x.pack();
        x.alter(2, 0, 3);
        x.alter(0, 0, 77);
        return x;
    }

    /** "what: 0: the reason; 1: the kept state whose reading fails by it" */
    private static void testCauseWhat() {
        Cases.Maker maker = PromiseBoundariesTest::broken;
        for (int depth = 0; depth <= 2; depth++) {
            int asked = depth;
            CASES.tells("kept state at " + depth, maker, x -> x.cause(2, asked, 1), 2 - depth);
            CASES.refused("what -1", maker, x -> x.cause(2, asked, -1), BAD);
            CASES.refused("what 2", maker, x -> x.cause(2, asked, 2), BAD);
        }
        CASES.tells("no kept state at 3", maker, x -> x.cause(2, 3, 1), NONE);
        CASES.refused("BAD before NONE of the depth", maker, x -> x.cause(2, 3, 2), BAD);
        Cases.Maker readable = PromiseBoundariesTest::some;
        CASES.refused("BAD before NONE of one that can be read", readable, x -> x.cause(0, 0, 2), BAD);
    }

    // Promise 18

    private static void testAparts() {
        testApartNumbers();
        testApartUnreadable();
        testApartValues();
    }

    /** "BAD if there is no such kept state (any more)" */
    private static void testApartNumbers() {
        badNumbers("apart, the one,", (x, kept) -> x.apart(kept, 0));
        badNumbers("apart, the other,", (x, kept) -> x.apart(0, kept));
        badNumbers("apart, both,", (x, kept) -> x.apart(kept, kept));
        CASES.tells("the last from the first", PromiseBoundariesTest::some, x -> x.apart(2, 0), 1);
        CASES.tells("the first from the last", PromiseBoundariesTest::some, x -> x.apart(0, 2), 1);
        CASES.tells("the same", PromiseBoundariesTest::some, x -> x.apart(2, 2), 0);
    }

    /** "STATE if one of them cannot be read" */
    private static void testApartUnreadable() {
        Cases.Maker lost = PromiseBoundariesTest::lostBase;
        CASES.refused("the one", lost, x -> x.apart(1, 2), STATE);
        CASES.refused("the other", lost, x -> x.apart(2, 1), STATE);
        CASES.refused("the same", lost, x -> x.apart(1, 1), STATE);
        CASES.refused("both", PromiseBoundariesTest::broken, x -> x.apart(0, 2), STATE);
        CASES.refused("BAD of the other before STATE", lost, x -> x.apart(1, 0), BAD);
        CASES.refused("BAD of the one before STATE", lost, x -> x.apart(0, 1), BAD);
        CASES.tells("what can be read", lost, x -> x.apart(2, 2), 0);
    }

    /** "Counts the values in which two kept states are different, both raised to the greater one of their forms." */
    private static void testApartValues() {
        for (int form = 1; form <= 3; form++) {
            for (int different = 0; different <= 6 + 2 * form; different++) {
                String script = different == 0 ? "" : "fill 0 " + (different - 1) + " 1;";
                due(different + " of form " + form, Cases.keptTwo(form, "", script).apart(0, 1), different);
            }
        }
        StateVault x = twoForms(1, 3);
        due("forms 1 and 3", x.apart(1, 2), 0);
        due("forms 3 and 1", x.apart(2, 1), 0);
        x = twoForms(3, 2);
        due("forms 3 and 2", x.apart(1, 2), 0);
        StateVault y = Cases.keptOne(1, "set 0 3;set 1 9;set 7 60;");
        y.raise();
        y.raise();
        Cases.script(y, "set 8 0;set 10 0;set 11 0;");
        y.keep();
        due("raised, then three values", y.apart(0, 1), 3);
        due("turned", y.apart(1, 0), 3);
    }

    // Promise 19

    private static void testForks() {
        testForkNumbers();
        testForkInChains();
        testForkOfLostBase();
    }

    /** "BAD if there is no such kept state (any more)": what cannot be read is in chains as well */
    private static void testForkNumbers() {
        badNumbers("fork, the one,", (x, kept) -> x.fork(kept, 0));
        badNumbers("fork, the other,", (x, kept) -> x.fork(0, kept));
        badNumbers("fork, both,", (x, kept) -> x.fork(kept, kept));
        CASES.tells("what cannot be read", PromiseBoundariesTest::broken, x -> x.fork(2, 1), 1);
    }

    /** "a kept state is in its own chain ... NONE if there is none" */
    private static void testForkInChains() {
        CASES.tells("the same", PromiseBoundariesTest::some, x -> x.fork(2, 2), 2);
        CASES.tells("the same whole one", PromiseBoundariesTest::some, x -> x.fork(0, 0), 0);
        CASES.tells("one in the chain of the other", PromiseBoundariesTest::some, x -> x.fork(2, 1), 1);
        CASES.tells("turned", PromiseBoundariesTest::some, x -> x.fork(1, 2), 1);
        CASES.tells("the end of the chain", PromiseBoundariesTest::some, x -> x.fork(2, 0), 0);
        CASES.tells("two whole ones", Cases::twoWhole, x -> x.fork(0, 1), NONE);
        StateVault x = manyFromOne(19);
        due("two differences from one", x.fork(1, 19), 0);
        due("turned", x.fork(19, 1), 0);
        StateVault y = Cases.chain(8, 7);
        y.load(3);
        y.keep();
        due("the latest of both", y.fork(8, 7), 3);
    }

    /** "a lost base is in it, too, and is the last one of it" */
    private static void testForkOfLostBase() {
        StateVault x = manyFromOne(2);
        x.drop(0, false);
        due("a lost base in both", x.fork(1, 2), 0);
        due("turned", x.fork(2, 1), 0);
        due("the lost one itself", x.fork(0, 1), BAD);
        due("as the other", x.fork(1, 0), BAD);
        StateVault y = Cases.chain(8, 3);
        y.load(1);
        y.keep();
        y.drop(1, false);
        due("a lost base", y.fork(3, 4), 1);
        due("it is the last one", y.fork(3, 0), NONE);
        y.drop(2, false);
        due("not in the chain any more", y.fork(3, 4), NONE);
    }

    // Promise 20

    private static void testNearests() {
        testNearestOfNone();
        testNearestForms();
        testNearestOfSeveral();
    }

    /** "NONE if there is none": not one, none that can be read, none of such a form */
    private static void testNearestOfNone() {
        CASES.tells("no kept state", Cases::fresh, StateVault::nearest, NONE);
        CASES.tells("the only one", () -> Cases.keptOne(1, ""), StateVault::nearest, 0);
        CASES.tells("none that can be read", PromiseBoundariesTest::broken, StateVault::nearest, NONE);
        CASES.tells("one whose base is lost is none", PromiseBoundariesTest::lostBase, StateVault::nearest, 2);
        StateVault far = Cases.keptOne(3, "");
        Cases.script(far, "fill 0 11 99;");
        due("however far it is", far.nearest(), 0);
    }

    /** "whose form is at most that of the game" */
    private static void testNearestForms() {
        for (int kept = 1; kept <= 3; kept++) {
            for (int game = 1; game <= 3; game++) {
                StateVault x = twoForms(kept, game);
                x.load(2);
                x.drop(2, false);
                due("form of the game", x.count(0), game);
                due("form " + kept + " for a game of form " + game, x.nearest(), kept <= game ? 1 : NONE);
            }
        }
    }

    /** "different from it in the fewest values; of several the one with the least number" */
    private static void testNearestOfSeveral() {
        StateVault x = Cases.fresh();
        x.set(0, 1);
        String[] scripts = {"fill 0 7 1;", "fill 0 1 2;", "fill 0 1 3;", "set 0 4;"};
        int[] nearest = {0, 1, 2, 3};
        for (int k = 0; k < scripts.length; k++) {
            Cases.script(x, scripts[k]);
            x.keep();
            due("the same as " + k, x.nearest(), nearest[k]);
        }
        Cases.script(x, "fill 0 1 5;");
        due("all are as near", x.nearest(), 0);
        Cases.script(x, "set 1 3;");
        due("two are as near", x.nearest(), 2);
        x.drop(2, false);
        due("the other one of them", x.nearest(), 3);
        x.keep();
        due("one without a difference", x.nearest(), 4);
    }

    // Promise 21

    /** "what: 0 to 12. Returns the number; BAD." */
    private static void testCounts() {
        CASES.tells("count(0)", PromiseBoundariesTest::some, x -> x.count(0), 1);
        CASES.tells("count(12)", PromiseBoundariesTest::some, x -> x.count(12), 1);
        CASES.refused("count(-1)", PromiseBoundariesTest::some, x -> x.count(-1), BAD);
        CASES.refused("count(13)", PromiseBoundariesTest::some, x -> x.count(13), BAD);
        CASES.refused("count of the least", PromiseBoundariesTest::some, x -> x.count(MIN), BAD);
        CASES.refused("count of the greatest", PromiseBoundariesTest::some, x -> x.count(MAX), BAD);
        testCountsOfKept();
        testCountOfLinks();
    }

    /** "1: its origin (NONE if there is none); ... 3: kept states; 4: those that are whole; 5: ..." */
    private static void testCountsOfKept() {
        int[][] wanted = {{1, NONE}, {3, 0}, {4, 0}, {5, 0}, {6, 0}, {7, 0}, {8, 0}};
        for (int[] row : wanted) {
            due("none: count(" + row[0] + ")", Cases.fresh().count(row[0]), row[1]);
        }
        StateVault x = Cases.keptTimes(20);
        int[][] full = {{1, 19}, {3, 20}, {4, 5}, {5, 0}, {6, 5 * 8 + 15 * 2}, {7, 20}, {8, 4}, {9, 6}};
        for (int[] row : full) {
            due("twenty: count(" + row[0] + ")", x.count(row[0]), row[1]);
        }
        StateVault y = broken();
        int[][] none = {{1, 2}, {3, 3}, {4, 1}, {5, 3}, {6, 16}, {7, 4}, {8, 3}};
        for (int[] row : none) {
            due("none can be read: count(" + row[0] + ")", y.count(row[0]), row[1]);
        }
        due("99 have come", Cases.cameTimes(99, 20).count(7), 99);
    }

    /** "8: the greatest number of links of a chain (0 if there are no kept states)" */
    private static void testCountOfLinks() {
        due("no kept states", Cases.fresh().count(8), 0);
        due("none any more", lastDropped().count(8), 0);
        due("a whole one", Cases.keptOne(1, "").count(8), 1);
        due("the longest of keep()", Cases.chain(8, 9).count(8), 8);
        due("more than the limit", longest().count(8), 9);
        due("with a lost base", lostBase().count(8), 2);
    }

    private static StateVault lastDropped() {
        StateVault x = Cases.keptOne(1, "");
        x.drop(0, false);
        return x;
    }

    // Promise 22

    /** "It is 176 at first; ... 31 times itself plus the number (long arithmetic with overflow)" */
    private static void testDigest() {
        Cases.Maker[] makers = {
            Cases::fresh, PromiseBoundariesTest::some, PromiseBoundariesTest::broken, PromiseBoundariesTest::lostBase,
            () -> Cases.keptTwo(3, "", "fill 0 5 1;"), PromiseBoundariesTest::lastDropped,
            () -> Cases.written(1, "\u0000\u007f"),
        };
        String[] texts = {"", "add 0 1;", "add 0 1;", "set 0 5;", "fill 0 5 1;", "", "\u0000\u007f"};
        for (int i = 0; i < makers.length; i++) {
            due("digest of state " + i, makers[i].make().digest(), digestOf(makers[i].make(), texts[i]));
        }
    }

    /** By numbers without a bound, of which the lowest 64 bits are left: what overflows is lost. */
    private static long digestOf(StateVault x, String text) {
        List<Integer> numbers = new ArrayList<>();
        for (int what = 0; what <= 12; what++) {
            numbers.add(x.count(what));
        }
        for (int i = 0; i < 6 + 2 * x.count(0); i++) {
            numbers.add(x.value(i));
        }
        for (int k = 0; k < x.count(7); k++) {
            if (x.kept(k, 0) != NONE) {
                addKept(numbers, x, k);
            }
        }
        numbers.add(x.nearest());
        for (char letter : text.toCharArray()) {
            numbers.add((int) letter);
        }
        BigInteger hash = BigInteger.valueOf(176);
        for (int number : numbers) {
            hash = hash.multiply(BigInteger.valueOf(31)).add(BigInteger.valueOf(number));
        }
        return hash.longValue();
    }

    private static void addKept(List<Integer> numbers, StateVault x, int k) {
        numbers.add(k);
        for (int what = 0; what <= 7; what++) {
            numbers.add(x.kept(k, what));
        }
        int size = x.kept(k, 3);
        for (int i = 0; i < size; i++) {
            numbers.add(x.entry(k, i, 0));
            numbers.add(x.entry(k, i, 1));
        }
        numbers.add(x.cause(k, 0, 0));
    }
}
