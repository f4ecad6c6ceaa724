/** Objects in states that lie at a boundary, and ways to see what a call answers and changes there. */
final class Cases {
    static final int NONE = -1, BAD = -2, STATE = -3, FULL = -4;
    static final int MIN = Integer.MIN_VALUE, MAX = Integer.MAX_VALUE;

    /** Makes a new object in always the same state. */
    interface Maker {
        StateVault make();
    }

    interface Call {
        long ask(StateVault x);
    }

    private final Check check;

    Cases(Check check) {
        this.check = check;
    }

    // What a call answers and changes

    void due(String what, long got, long want) {
        check.due(what, got, want);
    }

    /** A call that returns no error and records one state, the oldest making room, which undo() restores. */
    void changes(String what, Maker maker, Call call, long want) {
        StateVault x = maker.make();
        StateVault twin = maker.make();
        check.due(what, call.ask(x), want);
        int recorded = Math.min(6, twin.count(9) + 1);
        check.due(what + ": states recorded", x.count(9), recorded);
        check.due(what + ": undo()", x.undo(), recorded - 1);
        check.due(what + ": state after undo()", told(x), told(twin));
    }

    /** The digest without the part that count(9) has in it: in a full history undo() leaves one state less. */
    private static long told(StateVault x) {
        int numbersBehind = 3 + 6 + 2 * x.count(0) + 1 + x.count(10);
        int came = x.count(7);
        for (int k = 0; k < came; k++) {
            int size = x.kept(k, 3);
            if (size != NONE) {
                numbersBehind += 10 + 2 * size;
            }
        }
        long part = x.count(9);
        for (int i = 0; i < numbersBehind; i++) {
            part *= 31;
        }
        return x.digest() - part;
    }

    /** A call that is refused: all that can be seen later is as if it had not been. */
    void refused(String what, Maker maker, Call call, long error) {
        check.holds(what + ": is an error", error == BAD || error == STATE || error == FULL || error <= -2000);
        unchanged(what, maker, call, error);
    }

    /** A call that tells something: all that can be seen later is as if it had not been. */
    void tells(String what, Maker maker, Call call, long want) {
        unchanged(what, maker, call, want);
    }

    private void unchanged(String what, Maker maker, Call call, long want) {
        StateVault x = maker.make();
        StateVault twin = maker.make();
        check.due(what, call.ask(x), want);
        check.due(what + ": state after it", x.digest(), twin.digest());
        sameHistory(what, x, twin);
        x = maker.make();
        twin = maker.make();
        check.due(what + ": once more", call.ask(x), want);
        sameGoingOn(what, x, twin);
    }

    private void sameHistory(String what, StateVault x, StateVault twin) {
        for (int i = 0; i < 7; i++) {
            check.due(what + ": undo() no. " + i + " after it", x.undo(), twin.undo());
            check.due(what + ": state after undo() no. " + i, x.digest(), twin.digest());
        }
    }

    private void sameGoingOn(String what, StateVault x, StateVault twin) {
        for (int i = 0; i < 6; i++) {
            check.due(what + ": change no. " + i + " after it", go(x, i), go(twin, i));
            check.due(what + ": state after change no. " + i, x.digest(), twin.digest());
        }
    }

    private static int go(StateVault x, int i) {
        switch (i) {
            case 0: return x.play();
            case 1: return x.keep();
            case 2: return x.load(0);
            case 3: return x.raise();
            case 4: return x.keep();
            default: return x.pack();
        }
    }

    void finish() {
        check.finish();
    }

    void values(String what, StateVault x, int... wanted) {
        for (int i = 0; i < wanted.length; i++) {
            check.due(what + ": value(" + i + ")", x.value(i), wanted[i]);
        }
        check.due(what + ": value(" + wanted.length + ")", x.value(wanted.length), NONE);
    }

    void reads(String what, StateVault x, int kept, int form, int... wanted) {
        for (int i = 0; i < wanted.length; i++) {
            check.due(what + ": read(" + kept + ", " + form + ", " + i + ")", x.read(kept, form, i), wanted[i]);
        }
        check.due(what + ": read no more", x.read(kept, form, wanted.length), NONE);
    }

    // States

    static StateVault fresh() {
        return new StateVault();
    }

    static StateVault ofForm(int form) {
        StateVault x = fresh();
        for (int f = 1; f < form; f++) {
            x.raise();
        }
        return x;
    }

    static void write(StateVault x, String text) {
        x.clear();
        for (int i = 0; i < text.length(); i++) {
            x.type(text.charAt(i));
        }
    }

    static int script(StateVault x, String text) {
        write(x, text);
        return x.play();
    }

    static StateVault written(int form, String text) {
        StateVault x = ofForm(form);
        write(x, text);
        return x;
    }

    /** A new object of a form on which a script has been carried out. */
    static StateVault played(int form, String text) {
        StateVault x = written(form, text);
        x.play();
        return x;
    }

    /** A game of a form and values by a script, kept as number 0. */
    static StateVault keptOne(int form, String text) {
        StateVault x = played(form, text);
        x.keep();
        return x;
    }

    /** Number 0 is kept, and number 1 after one more script, with the limit of links 4. */
    static StateVault keptTwo(int form, String text, String next) {
        StateVault x = keptOne(form, text);
        script(x, next);
        x.keep();
        return x;
    }

    /** Two whole ones without any difference, at the limit of links 1. */
    static StateVault twoWhole() {
        StateVault x = fresh();
        x.set(0, 1);
        x.keep();
        x.keep();
        return x;
    }

    /**
     * Kept states 0 to last, all by differences from the one before if the limit allows it; the value 0 of
     * each is its number + 1.
     */
    static StateVault chain(int limit, int last) {
        StateVault x = fresh();
        x.set(0, limit);
        write(x, "add 0 1;");
        for (int k = 0; k <= last; k++) {
            x.play();
            x.keep();
        }
        return x;
    }

    /** As many kept states without entries as are told, with a full history. */
    static StateVault keptTimes(int times) {
        StateVault x = written(1, "add 0 1;");
        for (int k = 0; k < times; k++) {
            x.keep();
        }
        return x;
    }

    /** As many kept states have come as are told, the latest ones of which are still there. */
    static StateVault cameTimes(int came, int left) {
        StateVault x = fresh();
        for (int k = 0; k < came; k++) {
            if (k >= left) {
                x.drop(k - left, false);
            }
            x.keep();
        }
        return x;
    }
}
