/**
 * The sentences of the document's Description that name a boundary, a test each, but for those on the text
 * (TextBoundariesTest): the last input that is taken, the first one that is refused, and that this changes nothing.
 */
public final class DescriptionBoundariesTest {
    private static final int NONE = Cases.NONE, BAD = Cases.BAD, STATE = Cases.STATE, FULL = Cases.FULL;
    private static final Cases CASES = new Cases(new Check("boundaries of the description"));

    public static void main(String[] args) {
        testFiveHundredTwelveCalls();
        testErrors();
        testGame();
        testKeptStates();
        testSums();
        testKeeping();
        testChains();
        testReading();
        testSettings();
        testChanges();
        CASES.finish();
    }

    private static void due(String what, long got, long want) {
        CASES.due(what, got, want);
    }

    // "An object is used for at most 512 calls after it has been made"

    private static void testFiveHundredTwelveCalls() {
        StateVault x = Cases.fresh();
        String text = "add 0 1;";
        for (int i = 0; i < text.length(); i++) {
            x.type(text.charAt(i));
        }
        for (int call = 9; call <= 509; call++) {
            due("call " + call + ": play()", x.play(), 1);
        }
        due("call 510: keep()", x.keep(), 0);
        due("call 511: undo()", x.undo(), 5);
        due("call 512: value(0)", x.value(0), 99);
        StateVault y = Cases.fresh();
        for (int call = 1; call <= 511; call++) {
            y.raise();
        }
        StateVault twin = Cases.ofForm(3);
        due("call 512: digest()", y.digest(), twin.digest());
    }

    private static void testErrors() {
        testNamesThatDoNotExist();
        testFirstErrorCounts();
        testErrorsOfScripts();
        testErrorsChangeNothing();
        testNoneComesLast();
    }

    /** "BAD: an argument is out of range, or names something that does not exist." */
    private static void testNamesThatDoNotExist() {
        CASES.changes("load of the only one", () -> Cases.keptOne(1, ""), x -> x.load(0), 1);
        CASES.refused("load of none", Cases::fresh, x -> x.load(0), BAD);
        CASES.refused("load of the next number", () -> Cases.keptOne(1, ""), x -> x.load(1), BAD);
        CASES.refused("load out of range", () -> Cases.keptOne(1, ""), x -> x.load(-1), BAD);
    }

    /** "If several of them apply to a call, the one that comes first in the description ... is returned." */
    private static void testFirstErrorCounts() {
        Cases.Maker full = () -> Cases.written(1, " ".repeat(80));
        CASES.refused("type: BAD before FULL", full, x -> x.type(128), BAD);
        CASES.refused("type: FULL alone", full, x -> x.type(127), FULL);
        CASES.refused("read: BAD of the form before STATE", () -> broken(2), x -> x.read(0, 1, 0), BAD);
        CASES.refused("read: BAD of i before STATE", () -> broken(2), x -> x.read(0, 2, -1), BAD);
        CASES.refused("read: STATE alone", () -> broken(2), x -> x.read(0, 2, 0), STATE);
        CASES.refused("apart: BAD of the other before STATE", () -> broken(2), x -> x.apart(0, 1), BAD);
        CASES.refused("apart: BAD of the one before STATE", () -> broken(2), x -> x.apart(1, 0), BAD);
        CASES.refused("apart: STATE alone", () -> broken(2), x -> x.apart(0, 0), STATE);
    }

    /** A kept state of a form that cannot be read. */
    private static StateVault broken(int form) {
        StateVault x = Cases.keptOne(form, "");
        x.alter(0, 0, 1);
        return x;
    }

    /** "Results of -2000 and less are errors, too." */
    private static void testErrorsOfScripts() {
        CASES.changes("play of nothing", Cases::fresh, StateVault::play, 0);
        CASES.refused("play: the least fault", () -> Cases.written(1, ";"), StateVault::play, -2000);
        CASES.refused("play: the greatest fault", () -> Cases.written(1, " ".repeat(77) + "add"), StateVault::play,
            -2080);
    }

    /** "A call that returns an error changes nothing.": not even a full history, whose oldest state stays. */
    private static void testErrorsChangeNothing() {
        Cases.Maker maker = () -> fullHistory("x");
        due("history", maker.make().count(9), 6);
        CASES.refused("type", maker, x -> x.type(-1), BAD);
        CASES.refused("play", maker, StateVault::play, -2000);
        CASES.refused("raise", maker, StateVault::raise, STATE);
        CASES.refused("keep", () -> Cases.keptTimes(20), StateVault::keep, FULL);
        CASES.refused("load of a lost one", maker, x -> x.load(1), BAD);
        CASES.refused("load of a broken one", maker, x -> x.load(2), STATE);
        CASES.refused("drop", maker, x -> x.drop(1, true), BAD);
        CASES.refused("drop", maker, x -> x.drop(1, false), BAD);
        CASES.refused("alter", maker, x -> x.alter(0, 8, 0), BAD);
        CASES.refused("set", maker, x -> x.set(0, 9), BAD);
        CASES.refused("undo", Cases::fresh, StateVault::undo, STATE);
    }

    /** A game of the form 3, number 0 whole, number 1 lost, number 2 broken by that; the text is as told. */
    private static StateVault fullHistory(String text) {
        StateVault x = Cases.chain(4, 2);
        x.raise();
        x.raise();
        x.drop(1, false);
        Cases.write(x, text);
        return x;
    }

    /** "NONE is not an error; ... and is returned only if no error applies." */
    private static void testNoneComesLast() {
        CASES.tells("value: NONE", Cases::fresh, x -> x.value(8), NONE);
        CASES.refused("value: BAD", Cases::fresh, x -> x.value(-1), BAD);
        CASES.tells("kept: NONE", Cases::fresh, x -> x.kept(0, 7), NONE);
        CASES.refused("kept: BAD, not NONE", Cases::fresh, x -> x.kept(0, 8), BAD);
        CASES.tells("entry: NONE", Cases::fresh, x -> x.entry(0, 0, 1), NONE);
        CASES.refused("entry: BAD of what, not NONE", Cases::fresh, x -> x.entry(0, 0, 2), BAD);
        CASES.refused("entry: BAD of i, not NONE", Cases::fresh, x -> x.entry(0, -1, 1), BAD);
        CASES.tells("read: NONE", () -> Cases.keptOne(2, ""), x -> x.read(0, 2, 10), NONE);
        CASES.refused("read: BAD, not NONE", () -> Cases.keptOne(2, ""), x -> x.read(0, 1, 10), BAD);
        CASES.refused("read: STATE, not NONE", () -> broken(2), x -> x.read(0, 2, 10), STATE);
        CASES.tells("cause: NONE", () -> Cases.keptOne(1, ""), x -> x.cause(0, 0, 1), NONE);
        CASES.refused("cause: BAD, not NONE", () -> Cases.keptOne(1, ""), x -> x.cause(0, 0, 2), BAD);
        CASES.tells("fork: NONE", Cases::twoWhole, x -> x.fork(0, 1), NONE);
        CASES.refused("fork: BAD, not NONE", Cases::twoWhole, x -> x.fork(0, 2), BAD);
    }

    // The game

    private static void testGame() {
        testRoundingDown();
        testFormsAndValues();
        testAtFirst();
        testRaiseToTwo();
        testRaiseToThree();
    }

    /** "Divisions round down." */
    private static void testRoundingDown() {
        int[][] sumsAndThirds = {
            {0, 0, 0, 0}, {0, 0, 1, 0}, {0, 1, 1, 0}, {1, 1, 1, 1}, {1, 2, 1, 1}, {2, 2, 1, 1}, {1, 4, 1, 2},
            {99, 99, 97, 98}, {99, 98, 99, 98}, {99, 99, 99, 99},
        };
        for (int[] row : sumsAndThirds) {
            StateVault x = Cases.played(1, "set 0 " + row[0] + ";set 1 " + row[1] + ";set 2 " + row[2] + ";");
            x.raise();
            due("a third of " + row[0] + " + " + row[1] + " + " + row[2], x.value(8), row[3]);
        }
    }

    /** "a form, 1 to 3, and values from 0 to 99: 8 of them in the form 1, 10 in the form 2, 12 in the form 3" */
    private static void testFormsAndValues() {
        for (int form = 1; form <= 3; form++) {
            int last = 5 + 2 * form;
            String fill = "fill 0 " + last + " 99;";
            int ofForm = form;
            due("form", Cases.ofForm(form).count(0), form);
            CASES.tells("value 0 of form " + form, () -> Cases.played(ofForm, fill), x -> x.value(0), 99);
            CASES.tells("last value of form " + form, () -> Cases.played(ofForm, fill), x -> x.value(last), 99);
            CASES.tells("no value of form " + form, () -> Cases.played(ofForm, fill), x -> x.value(last + 1), NONE);
            CASES.tells("number of values kept", () -> Cases.keptOne(ofForm, fill), x -> x.kept(0, 3), last + 1);
            CASES.changes("fill in form " + form, () -> Cases.written(ofForm, fill), StateVault::play, 1);
            CASES.refused("fill beyond", () -> Cases.written(ofForm, "fill 0 " + (last + 1) + " 99;"),
                StateVault::play, -2007);
        }
        CASES.changes("raise to the form 3", () -> Cases.ofForm(2), StateVault::raise, 3);
        CASES.refused("there is no form 4", () -> Cases.ofForm(3), StateVault::raise, STATE);
    }

    /** "At first it has the form 1, and all values are 0. It has an origin: a kept state, or none (at first)." */
    private static void testAtFirst() {
        CASES.values("at first", Cases.fresh(), 0, 0, 0, 0, 0, 0, 0, 0);
        CASES.tells("form at first", Cases::fresh, x -> x.count(0), 1);
        CASES.tells("origin at first", Cases::fresh, x -> x.count(1), NONE);
        CASES.tells("origin after the first one is kept", () -> Cases.keptOne(1, ""), x -> x.count(1), 0);
    }

    /** "from 1 to 2: the value 8 becomes ... / 3, and the value 9 becomes the value 7; the others stay" */
    private static void testRaiseToTwo() {
        StateVault x = Cases.played(1, "set 0 9;set 1 8;set 2 7;set 3 6;set 4 5;set 5 4;set 6 3;set 7 2;");
        due("raise", x.raise(), 2);
        CASES.values("form 2", x, 9, 8, 7, 6, 5, 4, 3, 2, 8, 2);
        StateVault least = Cases.ofForm(2);
        CASES.values("of the least values", least, 0, 0, 0, 0, 0, 0, 0, 0, 0, 0);
        StateVault most = Cases.played(1, "fill 0 7 99;");
        most.raise();
        CASES.values("of the greatest values", most, 99, 99, 99, 99, 99, 99, 99, 99, 99, 99);
    }

    /** "from 2 to 3: the values 1 and 4 are exchanged; the value 10 becomes twice the value 9, but at most 99" */
    private static void testRaiseToThree() {
        StateVault x = Cases.played(2, "set 0 9;set 1 8;set 3 6;set 4 5;set 8 1;set 9 2;");
        due("raise", x.raise(), 3);
        CASES.values("form 3", x, 9, 5, 0, 6, 8, 0, 0, 0, 1, 2, 4, 50);
        int[][] twice = {{0, 0}, {1, 2}, {48, 96}, {49, 98}, {50, 99}, {51, 99}, {98, 99}, {99, 99}};
        for (int[] row : twice) {
            StateVault y = Cases.played(2, "set 9 " + row[0] + ";");
            y.raise();
            due("twice " + row[0], y.value(10), row[1]);
            due("value 9 stays", y.value(9), row[0]);
            due("value 11", y.value(11), 50);
        }
    }

    // Kept states

    private static void testKeptStates() {
        testAtMostTwenty();
        testNumbers();
        testAtMostNinetyNine();
        testEntriesAscend();
        testBaseCameBefore();
    }

    /** "There are at most 20 of them" */
    private static void testAtMostTwenty() {
        CASES.changes("keep the 20th", () -> Cases.keptTimes(19), StateVault::keep, 19);
        CASES.refused("keep the 21st", () -> Cases.keptTimes(20), StateVault::keep, FULL);
        StateVault x = Cases.keptTimes(20);
        due("20 are there", x.count(3), 20);
        x.drop(0, false);
        due("one place is free", x.keep(), 20);
        due("20 are there again", x.count(3), 20);
        due("no place is free", x.keep(), FULL);
        x.undo();
        due("undo makes room", x.keep(), 20);
    }

    /** "numbered from 0 in the order in which they came; numbers are never given again, but by undo()" */
    private static void testNumbers() {
        StateVault x = Cases.fresh();
        due("first", x.keep(), 0);
        due("second", x.keep(), 1);
        x.drop(1, true);
        due("the number of a dropped one is not given again", x.keep(), 2);
        x.drop(2, true);
        x.drop(0, true);
        due("none are left", x.count(3), 0);
        due("nor if none are left", x.keep(), 3);
        x.undo();
        due("but by undo()", x.keep(), 3);
        x.undo();
        x.undo();
        x.undo();
        due("2 is there again", x.kept(2, 0), 1);
        x.undo();
        due("2 has not come", x.cause(2, 0, 0), BAD);
        due("given again by undo()", x.keep(), 2);
    }

    /** "At most 99 can come." */
    private static void testAtMostNinetyNine() {
        due("98 have come", Cases.cameTimes(98, 3).count(7), 98);
        CASES.changes("the 99th comes", () -> Cases.cameTimes(98, 3), StateVault::keep, 98);
        CASES.refused("the 100th cannot come", () -> Cases.cameTimes(99, 3), StateVault::keep, FULL);
        CASES.refused("nor if there is none", () -> noneOf(99), StateVault::keep, FULL);
        CASES.changes("the 99th if there is none", () -> noneOf(98), StateVault::keep, 98);
        CASES.changes("the 99th beside 19", () -> Cases.cameTimes(98, 19), StateVault::keep, 98);
        CASES.refused("both limits", () -> Cases.cameTimes(99, 20), StateVault::keep, FULL);
        StateVault x = Cases.cameTimes(99, 3);
        due("undo", x.undo(), 5);
        due("undo() makes room", x.keep(), 98);
        due("once", x.keep(), FULL);
    }

    private static StateVault noneOf(int came) {
        StateVault x = Cases.cameTimes(came, 1);
        x.drop(came - 1, false);
        return x;
    }

    /** "A difference has ... entries, each with the number of a value and a value, by ascending numbers" */
    private static void testEntriesAscend() {
        StateVault x = Cases.keptTwo(3, "", "set 11 1;set 0 2;set 7 3;set 10 4;");
        int[][] wanted = {{0, 2}, {7, 3}, {10, 4}, {11, 1}};
        for (int i = 0; i < wanted.length; i++) {
            due("number of the entry " + i, x.entry(1, i, 0), wanted[i][0]);
            due("value of the entry " + i, x.entry(1, i, 1), wanted[i][1]);
        }
        due("no entry 4", x.entry(1, 4, 0), NONE);
    }

    /** "A difference has a base, which is another kept state that came before it": also after packing */
    private static void testBaseCameBefore() {
        due("a first one has none", Cases.keptOne(1, "").kept(0, 2), NONE);
        due("a second one has the first", Cases.keptTwo(1, "", "").kept(1, 2), 0);
        StateVault x = Cases.twoWhole();
        x.set(0, 2);
        Cases.script(x, "fill 0 7 1;");
        x.pack();
        due("the first one is no difference from the second", x.kept(0, 2), NONE);
    }

    // Sums

    /** "it is 7 at first, and for each value, in their order, it becomes (31 * sum + value) modulo 9973" */
    private static void testSums() {
        due("of 8 times 0", Cases.fresh().count(2), 3545);
        due("at the wrap-around, below", Cases.played(1, "set 5 4;set 6 81;set 7 72;").count(2), 9972);
        due("at the wrap-around", Cases.played(1, "set 5 4;set 6 81;set 7 73;").count(2), 0);
        due("at the wrap-around, above", Cases.played(1, "set 5 4;set 6 81;set 7 74;").count(2), 1);
        StateVault x = Cases.keptOne(1, "set 5 4;set 6 81;set 7 73;");
        due("kept sum 0", x.kept(0, 1), 0);
        due("read with the sum 0", x.read(0, 0, 7), 73);
        x.alter(0, 7, 72);
        due("not read with the sum 9972", x.read(0, 0, 7), STATE);
        x.alter(0, 7, 74);
        due("not read with the sum 1", x.read(0, 0, 7), STATE);
    }

    // To keep the game

    private static void testKeeping() {
        testNoOrigin();
        testUnreadableOrigin();
        testLinksOfOrigin();
        testSixEntries();
        testEntriesAfterRaising();
        testNewOrigin();
    }

    /** "if it has no origin ... it is kept whole" */
    private static void testNoOrigin() {
        Cases.Maker maker = () -> {
            StateVault x = Cases.keptTwo(1, "", "");
            x.drop(1, false);
            return x;
        };
        CASES.tells("no origin", maker, x -> x.count(1), NONE);
        CASES.changes("keep", maker, StateVault::keep, 2);
        StateVault x = maker.make();
        x.keep();
        due("whole", x.kept(2, 2), NONE);
        StateVault y = maker.make();
        y.load(0);
        y.keep();
        due("a difference from an origin", y.kept(2, 2), 0);
    }

    /** "or the origin cannot be read" */
    private static void testUnreadableOrigin() {
        StateVault x = Cases.keptOne(1, "");
        x.alter(0, 0, 1);
        due("keep", x.keep(), 1);
        due("whole", x.kept(1, 2), NONE);
        x = Cases.keptOne(1, "");
        x.alter(0, 0, 1);
        x.alter(0, 0, 0);
        due("keep", x.keep(), 1);
        due("a difference if it can be read again", x.kept(1, 2), 0);
        x = Cases.keptTwo(1, "", "");
        x.drop(0, false);
        due("keep", x.keep(), 2);
        due("whole if the base of the origin is lost", x.kept(2, 2), NONE);
    }

    /** "or the chain of the origin has at least as many links as the limit of links" */
    private static void testLinksOfOrigin() {
        for (int limit = 1; limit <= 8; limit++) {
            StateVault x = Cases.chain(limit, limit);
            for (int k = 0; k < limit; k++) {
                due("limit " + limit + ": base of " + k, x.kept(k, 2), k - 1);
                due("limit " + limit + ": links of " + k, x.kept(k, 4), k + 1);
            }
            due("limit " + limit + ": the next one is whole", x.kept(limit, 2), NONE);
        }
        StateVault y = Cases.chain(8, 4);
        y.set(0, 3);
        y.load(2);
        due("keep", y.keep(), 5);
        due("three links at the limit 3", y.kept(5, 2), NONE);
        y.load(1);
        due("keep", y.keep(), 6);
        due("two links at the limit 3", y.kept(6, 2), 1);
        y.load(4);
        due("keep", y.keep(), 7);
        due("five links at the limit 3", y.kept(7, 2), NONE);
    }

    /** "or there would be more than 6 entries, it is kept whole. Otherwise ... its entries (perhaps none)" */
    private static void testSixEntries() {
        for (int form = 1; form <= 3; form++) {
            due("no entries", Cases.keptTwo(form, "", "").kept(1, 3), 0);
            due("no entries", Cases.keptTwo(form, "", "").kept(1, 2), 0);
            due("one entry", Cases.keptTwo(form, "", "set 7 1;").kept(1, 3), 1);
            due("six entries", Cases.keptTwo(form, "", "fill 2 7 1;").kept(1, 3), 6);
            due("six entries", Cases.keptTwo(form, "", "fill 2 7 1;").kept(1, 2), 0);
            due("seven entries", Cases.keptTwo(form, "", "fill 1 7 1;").kept(1, 3), 6 + 2 * form);
            due("seven entries", Cases.keptTwo(form, "", "fill 1 7 1;").kept(1, 2), NONE);
            due("all values", Cases.keptTwo(form, "", "fill 0 7 1;").kept(1, 2), NONE);
        }
        due("twelve values", Cases.keptTwo(3, "", "fill 0 11 1;").kept(1, 2), NONE);
    }

    /** "the values in which the game is different from the state of the origin, raised to the form of the game" */
    private static void testEntriesAfterRaising() {
        StateVault x = Cases.keptOne(1, "set 0 9;set 1 5;set 7 60;");
        x.raise();
        x.raise();
        due("keep", x.keep(), 1);
        due("raised alike", x.kept(1, 3), 0);
        due("a difference", x.kept(1, 2), 0);
        Cases.script(x, "set 1 1;set 2 1;set 3 1;set 8 1;set 10 1;set 11 1;");
        x.drop(1, false);
        x.load(0);
        Cases.script(x, "set 1 1;set 2 1;set 3 1;set 8 1;set 10 1;set 11 1;");
        due("keep", x.keep(), 2);
        due("six entries beside the raised one", x.kept(2, 3), 6);
        x.load(0);
        Cases.script(x, "fill 1 3 1;set 4 1;set 8 1;set 10 1;set 11 1;");
        due("keep", x.keep(), 3);
        due("seven entries beside the raised one", x.kept(3, 2), NONE);
    }

    /** "The new kept state becomes the origin." */
    private static void testNewOrigin() {
        StateVault x = Cases.keptOne(1, "");
        due("origin", x.count(1), 0);
        Cases.script(x, "fill 0 7 1;");
        x.keep();
        due("origin, also if it is whole", x.count(1), 1);
        x.keep();
        due("origin, also if it is a difference", x.count(1), 2);
    }

    // Chains

    /** "The chain of a whole kept state has one link ... (a base that is lost counts as one link)" */
    private static void testChains() {
        StateVault x = Cases.chain(8, 7);
        for (int k = 0; k < 8; k++) {
            due("links of " + k, x.kept(k, 4), k + 1);
        }
        x.drop(0, false);
        due("a lost base is one link", x.kept(1, 4), 2);
        due("and so on", x.kept(7, 4), 8);
        x.drop(6, false);
        due("a nearer lost base", x.kept(7, 4), 2);
        due("the others stay", x.kept(5, 4), 6);
        x.drop(1, true);
        due("a lost base of what cannot be mended", x.kept(2, 4), 2);
    }

    // Reading

    private static void testReading() {
        testReadingPatches();
        testReadingFails();
        testReasons();
        testCauses();
    }

    /** "its base is read first, and raised to the form of the difference; then the values of the entries are put" */
    private static void testReadingPatches() {
        StateVault x = Cases.keptOne(1, "set 0 30;set 1 5;set 4 7;set 7 60;");
        x.raise();
        Cases.script(x, "set 0 99;set 9 1;");
        x.keep();
        CASES.reads("form 2 from form 1", x, 1, 0, 99, 5, 0, 0, 7, 0, 0, 60, 11, 1);
        x.raise();
        Cases.script(x, "set 1 0;");
        x.keep();
        CASES.reads("form 3 from form 2", x, 2, 0, 99, 0, 0, 0, 5, 0, 0, 60, 11, 1, 2, 50);
        CASES.reads("form 1 raised to form 3", x, 0, 3, 30, 7, 0, 0, 5, 0, 0, 60, 11, 60, 99, 50);
    }

    /** "the reading fails if the sum of the values that are found is not the kept sum" */
    private static void testReadingFails() {
        StateVault x = Cases.keptTwo(1, "", "set 7 1;");
        x.alter(0, 7, 2);
        due("whole, another sum", x.read(0, 0, 0), STATE);
        x.alter(0, 7, 0);
        due("whole, its own sum", x.read(0, 0, 0), 0);
        x.alter(1, 0, 2);
        due("difference, another sum", x.read(1, 0, 0), STATE);
        x.alter(1, 0, 1);
        due("difference, its own sum", x.read(1, 0, 7), 1);
        x.alter(0, 5, 8);
        x.alter(0, 6, 71);
        x.alter(0, 7, 84);
        due("other values with the same sum", x.read(0, 0, 7), 84);
        due("the sum of the difference is another one then", x.read(1, 0, 7), STATE);
    }

    /** "0 the kept state is lost; 1 the sum is another one; 2 the base cannot be read" */
    private static void testReasons() {
        StateVault x = Cases.chain(4, 3);
        x.drop(0, false);
        due("lost", x.cause(0, 0, 0), 0);
        due("its base is lost", x.cause(1, 0, 0), 2);
        StateVault y = Cases.chain(4, 3);
        y.alter(0, 0, 2);
        due("another sum", y.cause(0, 0, 0), 1);
        due("its base cannot be read", y.cause(1, 0, 0), 2);
        y.alter(1, 0, 3);
        due("the base comes before the sum", y.cause(1, 0, 0), 2);
        y.alter(0, 0, 1);
        due("the sum if the base can be read", y.cause(1, 0, 0), 1);
        due("the base of the next one", y.cause(2, 0, 0), 2);
        y.alter(1, 0, 2);
        due("none", y.cause(2, 0, 0), NONE);
    }

    /** "The reason 2 has a cause: the reason why the reading of the base fails, which can have a cause, too." */
    private static void testCauses() {
        StateVault x = Cases.chain(8, 7);
        x.alter(0, 0, 2);
        for (int depth = 0; depth < 7; depth++) {
            due("reason at " + depth, x.cause(7, depth, 0), 2);
            due("kept state at " + depth, x.cause(7, depth, 1), 7 - depth);
        }
        due("last reason", x.cause(7, 7, 0), 1);
        due("last kept state", x.cause(7, 7, 1), 0);
        due("no more reasons", x.cause(7, 8, 0), NONE);
        due("no more kept states", x.cause(7, 8, 1), NONE);
        due("the reason 1 has no cause", x.cause(0, 1, 0), NONE);
        x.drop(0, false);
        due("the reason 0 has no cause", x.cause(0, 1, 0), NONE);
        due("the reason 0 at the end", x.cause(7, 7, 0), 0);
    }

    // Settings

    private static void testSettings() {
        testLimitOfLinks();
        testWhetherLoadRaises();
    }

    /** "0 the limit of links, 1 to 8 (4 at first)" */
    private static void testLimitOfLinks() {
        CASES.tells("at first", Cases::fresh, x -> x.count(11), 4);
        CASES.changes("the least limit", Cases::fresh, x -> x.set(0, 1), 4);
        CASES.changes("the greatest limit", Cases::fresh, x -> x.set(0, 8), 4);
        CASES.refused("limit 0", Cases::fresh, x -> x.set(0, 0), BAD);
        CASES.refused("limit 9", Cases::fresh, x -> x.set(0, 9), BAD);
        CASES.refused("limit -1", Cases::fresh, x -> x.set(0, -1), BAD);
    }

    /** "1 whether load() raises to the form of the game, 0 or 1 (1 at first)" */
    private static void testWhetherLoadRaises() {
        CASES.tells("at first", Cases::fresh, x -> x.count(12), 1);
        CASES.changes("not to raise", Cases::fresh, x -> x.set(1, 0), 1);
        CASES.changes("to raise", Cases::fresh, x -> x.set(1, 1), 1);
        CASES.refused("raising -1", Cases::fresh, x -> x.set(1, -1), BAD);
        CASES.refused("raising 2", Cases::fresh, x -> x.set(1, 2), BAD);
        StateVault x = Cases.keptOne(1, "");
        x.raise();
        due("raises", x.load(0), 2);
        x.set(1, 0);
        due("does not raise", x.load(0), 1);
    }

    // Changes

    private static void testChanges() {
        testWhatIsAChange();
        testWhatIsNoChange();
        testSixStates();
        testUndoRestores();
        testUndoRestoresForms();
        testTextIsNoPart();
    }

    /** "Changes are the calls of play(), raise(), keep(), ... and set() that return no error.": a state for each */
    private static void testWhatIsAChange() {
        Cases.Maker maker = () -> Cases.keptTwo(1, "", "");
        CASES.changes("play, without commands", maker, StateVault::play, 0);
        CASES.changes("raise", maker, StateVault::raise, 2);
        CASES.changes("keep, without entries", maker, StateVault::keep, 2);
        CASES.changes("load, of what the game is", maker, x -> x.load(1), 1);
        CASES.changes("drop", maker, x -> x.drop(0, false), 1);
        CASES.changes("drop with mending", maker, x -> x.drop(0, true), 0);
        CASES.changes("alter, to the same", maker, x -> x.alter(0, 0, 0), 0);
        CASES.changes("pack, where nothing is to pack", maker, StateVault::pack, 0);
        CASES.changes("pack, of nothing", Cases::fresh, StateVault::pack, 0);
        CASES.changes("set, to the same", maker, x -> x.set(0, 4), 4);
    }

    private static void testWhatIsNoChange() {
        StateVault x = Cases.keptTwo(1, "", "");
        int history = x.count(9);
        x.type(97);
        x.clear();
        long asked = x.value(0) + x.kept(0, 0) + x.entry(0, 0, 0) + x.read(0, 0, 0) + x.cause(0, 0, 0);
        asked += x.apart(0, 1) + x.fork(0, 1) + x.nearest() + x.count(0) + x.digest();
        due("states recorded, " + asked, x.count(9), history);
        x.undo();
        due("undo() records none", x.count(9), history - 1);
    }

    /** "A history of at most 6 states is kept ... when one more is recorded, the oldest one is dropped." */
    private static void testSixStates() {
        for (int changes = 0; changes <= 9; changes++) {
            StateVault x = Cases.written(1, "add 0 1;");
            for (int i = 0; i < changes; i++) {
                x.play();
            }
            int left = Math.min(6, changes);
            due("states after " + changes + " changes", x.count(9), left);
            while (left > 0) {
                left--;
                due("undo() after " + changes + " changes", x.undo(), left);
            }
            due("the oldest state after " + changes + " changes", x.value(0), Math.max(0, changes - 6));
            due("no more after " + changes + " changes", x.undo(), STATE);
            due("nothing is changed by that", x.value(0), Math.max(0, changes - 6));
        }
    }

    /** "each change records the state before it (the game, all kept states and the settings)" */
    private static void testUndoRestores() {
        StateVault x = Cases.chain(8, 5);
        x.set(0, 3);
        x.set(1, 0);
        x.drop(0, true);
        x.pack();
        x.load(3);
        x.raise();
        due("form", x.count(0), 2);
        x.undo();
        due("form again", x.count(0), 1);
        x.undo();
        due("value again", x.value(0), 6);
        due("origin again", x.count(1), 5);
        due("packed", x.kept(5, 4), 2);
        x.undo();
        due("links again", x.kept(5, 4), 5);
        x.undo();
        due("dropped one again", x.read(0, 0, 0), 1);
        due("mended one a difference again", x.kept(1, 2), 0);
        x.undo();
        due("setting 1 again", x.count(12), 1);
        x.undo();
        due("setting 0 again", x.count(11), 8);
        due("no more", x.undo(), STATE);
    }

    /** The same for kept states of several forms, dropped from the greatest number to the least. */
    private static void testUndoRestoresForms() {
        StateVault x = Cases.keptOne(1, "set 7 8;");
        x.raise();
        Cases.script(x, "set 0 5;");
        x.keep();
        x.raise();
        Cases.script(x, "set 11 9;");
        x.keep();
        int[] sums = {x.kept(0, 1), x.kept(1, 1), x.kept(2, 1)};
        for (int k = 2; k >= 0; k--) {
            x.drop(k, false);
        }
        x.keep();
        due("undo of keep()", x.undo(), 5);
        for (int k = 0; k <= 2; k++) {
            x.undo();
            due("form of " + k, x.kept(k, 0), k + 1);
            due("sum of " + k, x.kept(k, 1), sums[k]);
            due("base of " + k, x.kept(k, 2), k - 1);
            due("entries of " + k, x.kept(k, 3), k == 0 ? 8 : 1);
            due(k + " can be read", x.kept(k, 5), 1);
        }
        due("values of the form 3", x.read(2, 0, 11), 9);
    }

    /** "The text does not belong to the state." */
    private static void testTextIsNoPart() {
        StateVault x = Cases.played(1, "add 0 1;");
        x.type(' ');
        due("undo()", x.undo(), 0);
        due("the text stays", x.count(10), 9);
        x.play();
        x.clear();
        due("undo()", x.undo(), 0);
        due("no text comes again", x.count(10), 0);
    }
}
