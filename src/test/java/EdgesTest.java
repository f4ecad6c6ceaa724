import java.util.ArrayList;
import java.util.List;

/**
 * Every call with every combination of arguments at the edges of their ranges and far beyond, in states at the
 * edges of the document, answered by the class and by the model alike; new objects for each.
 */
public final class EdgesTest {
    private static final int MIN = Integer.MIN_VALUE, MAX = Integer.MAX_VALUE;
    private static final int[] WHATS = {MIN, -1, 0, 1, 2, MAX};
    private static final int[] FORMS = {MIN, -1, 0, 1, 2, 3, 4, MAX};
    private static final int[] KEPT = {MIN, -1, 0, 1, 2, 4, 5, 19, 20, 97, 98, 99, MAX};
    private static final int[] PARTS = {MIN, -1, 0, 1, 5, 6, 7, 8, 9, 10, 11, 12, 13, MAX};
    private static final int[] AMOUNTS = {MIN, -1, 0, 1, 98, 99, 100, MAX};
    private static final int[] LETTERS = {MIN, -129, -1, 0, 32, 97, 126, 127, 128, 129, 255, 256, MAX};
    private static final int[] VALUES = {MIN, -1, 0, 1, 2, 4, 7, 8, 9, 10, MAX};
    private static final Check CHECK = new Check("edges");

    private final StateVault x = new StateVault();
    private final Model model = new Model();
    private final String state;

    /** A state by the number of what makes it. */
    private EdgesTest(int made) {
        state = "state " + made + ": ";
        make(made);
    }

    public static void main(String[] args) {
        for (int made = 0; made < 10 && !CHECK.hasWrong(); made++) {
            for (int[] call : calls()) {
                new EdgesTest(made).test(call);
            }
        }
        CHECK.finish();
    }

    /** The number of a call of the face, and its arguments. */
    private static List<int[]> calls() {
        List<int[]> calls = new ArrayList<>();
        int[] none = {0};
        add(calls, 0, LETTERS, none, none);
        for (int call = 1; call <= 7; call++) {
            add(calls, call, none, none, none);
        }
        add(calls, 8, KEPT, none, none);
        add(calls, 9, KEPT, new int[] {0, 1}, none);
        add(calls, 10, KEPT, PARTS, AMOUNTS);
        add(calls, 11, WHATS, VALUES, none);
        add(calls, 12, PARTS, none, none);
        add(calls, 13, KEPT, PARTS, none);
        add(calls, 14, KEPT, PARTS, WHATS);
        add(calls, 15, KEPT, FORMS, PARTS);
        add(calls, 16, KEPT, PARTS, WHATS);
        add(calls, 17, KEPT, KEPT, none);
        add(calls, 18, KEPT, KEPT, none);
        add(calls, 19, PARTS, none, none);
        return calls;
    }

    private static void add(List<int[]> calls, int call, int[] firsts, int[] seconds, int[] thirds) {
        for (int first : firsts) {
            for (int second : seconds) {
                for (int third : thirds) {
                    calls.add(new int[] {call, first, second, third});
                }
            }
        }
    }

    private void test(int[] call) {
        String what = state + "call " + call[0] + "(" + call[1] + ", " + call[2] + ", " + call[3] + ")";
        CHECK.due(what, ask(call), due(call));
        CHECK.due(what + ", digest", x.digest(), model.digest());
        CHECK.due(what + ", undo", x.undo(), model.undo());
        CHECK.due(what + ", digest after undo", x.digest(), model.digest());
    }

    private long ask(int[] call) {
        int a = call[1];
        int b = call[2];
        int c = call[3];
        switch (call[0]) {
            case 0: return x.type(a);
            case 1: return x.clear();
            case 2: return x.play();
            case 3: return x.raise();
            case 4: return x.keep();
            case 5: return x.pack();
            case 6: return x.undo();
            case 7: return x.nearest();
            case 8: return x.load(a);
            case 9: return x.drop(a, b == 1);
            case 10: return x.alter(a, b, c);
            case 11: return x.set(a, b);
            case 12: return x.value(a);
            case 13: return x.kept(a, b);
            case 14: return x.entry(a, b, c);
            case 15: return x.read(a, b, c);
            case 16: return x.cause(a, b, c);
            case 17: return x.apart(a, b);
            case 18: return x.fork(a, b);
            default: return x.count(a);
        }
    }

    private long due(int[] call) {
        int a = call[1];
        int b = call[2];
        int c = call[3];
        switch (call[0]) {
            case 0: return model.type(a);
            case 1: return model.clear();
            case 2: return model.play();
            case 3: return model.raise();
            case 4: return model.keep();
            case 5: return model.pack();
            case 6: return model.undo();
            case 7: return model.nearest();
            case 8: return model.load(a);
            case 9: return model.drop(a, b == 1);
            case 10: return model.alter(a, b, c);
            case 11: return model.set(a, b);
            case 12: return model.value(a);
            case 13: return model.kept(a, b);
            case 14: return model.entry(a, b, c);
            case 15: return model.read(a, b, c);
            case 16: return model.cause(a, b, c);
            case 17: return model.apart(a, b);
            case 18: return model.fork(a, b);
            default: return model.count(a);
        }
    }

    // States

    private void make(int made) {
        switch (made) {
            case 0: break;
            case 1: write("add0 1;".repeat(11) + "   "); break;
            case 2: chain(8, 4); break;
            case 3: chain(1, 4); run(11, 0, 8, 0); break;
            case 4: chain(8, 4); run(10, 0, 0, 99); break;
            case 5: chain(8, 4); run(9, 1, 0, 0); break;
            case 6: forms(); break;
            case 7: chain(4, 19); break;
            case 8: chain(4, 0); come(99, 2); break;
            default: chain(4, 0); come(98, 19); write("x"); break;
        }
    }

    private void run(int... call) {
        long got = ask(call);
        long want = due(call);
        if (got != want) {
            CHECK.due(state + "making it by call " + call[0], got, want);
        }
    }

    private void write(String text) {
        run(1, 0, 0, 0);
        for (char letter : text.toCharArray()) {
            run(0, letter, 0, 0);
        }
    }

    private void chain(int limit, int last) {
        run(11, 0, limit, 0);
        write("add 0 1;");
        for (int k = 0; k <= last; k++) {
            run(2, 0, 0, 0);
            run(4, 0, 0, 0);
        }
    }

    /** One of each form, and one of the form 1 again behind them. */
    private void forms() {
        chain(4, 0);
        run(11, 1, 0, 0);
        for (int form = 2; form <= 3; form++) {
            run(3, 0, 0, 0);
            run(2, 0, 0, 0);
            run(4, 0, 0, 0);
        }
        run(8, 0, 0, 0);
        run(4, 0, 0, 0);
    }

    /** Until as many have come as are told, with the latest ones still there. */
    private void come(int came, int left) {
        for (int k = 1; k < came; k++) {
            if (k >= left) {
                run(9, k - left, 1, 0);
            }
            run(4, 0, 0, 0);
        }
    }
}
