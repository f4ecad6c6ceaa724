import java.util.Random;

/** Long runs of calls with fixed seeds, answered by the class and by the model alike. */
public final class RandomRunsTest {
    private static final int CALLS = 512;
    private static final Check CHECK = new Check("random runs");

    private final Random random;
    private final String run;
    private final StateVault x = new StateVault();
    private final Model model = new Model();
    private int calls = 0;

    private RandomRunsTest(long seed) {
        random = new Random(seed);
        run = "seed " + seed + ", call ";
    }

    public static void main(String[] args) {
        for (long seed = 0; seed < 400 && !CHECK.hasWrong(); seed++) {
            new RandomRunsTest(seed).mixed((int) (seed % 4));
        }
        for (long seed = 1000; seed < 3000 && !CHECK.hasWrong(); seed++) {
            new RandomRunsTest(seed).scripts();
        }
        CHECK.finish();
    }

    private void due(String call, long got, long want) {
        calls++;
        CHECK.due(run + calls + ", " + call, got, want);
    }

    private void mixed(int kind) {
        int limit = kind == 0 ? 4 : 8;
        if (kind != 0) {
            due("set", x.set(0, limit), model.set(0, limit));
        }
        while (calls < CALLS - 30 && !CHECK.hasWrong()) {
            change(kind);
            due("digest", x.digest(), model.digest());
            ask();
        }
    }

    private void change(int kind) {
        int k = someKept();
        int what = random.nextInt(100);
        if (what < 22) {
            due("keep", x.keep(), model.keep());
        } else if (what < 42) {
            playSmall(kind);
        } else if (what < 50) {
            due("load " + k, x.load(k), model.load(k));
        } else if (what < 60) {
            boolean mend = random.nextBoolean();
            due("drop " + k + " " + mend, x.drop(k, mend), model.drop(k, mend));
        } else if (what < 72) {
            alter(k);
        } else if (what < 80) {
            due("pack", x.pack(), model.pack());
        } else if (what < 84) {
            int setting = random.nextInt(3) - (random.nextInt(9) == 0 ? 1 : 0);
            int value = random.nextInt(11) - 1;
            due("set " + setting + " " + value, x.set(setting, value), model.set(setting, value));
        } else if (what < 94 - 2 * kind) {
            due("undo", x.undo(), model.undo());
        } else if (random.nextInt(4) == 0) {
            due("raise", x.raise(), model.raise());
        }
    }

    /** Mostly altered back at once or to the same, so that long chains stay readable. */
    private void alter(int k) {
        int i = random.nextInt(4) == 0 ? random.nextInt(15) - 1 : random.nextInt(3);
        int value = random.nextInt(20) == 0 ? random.nextInt(4) * 66 - 33 : random.nextInt(100);
        int before = model.alter(k, i, value);
        due("alter " + k + " " + i + " " + value, x.alter(k, i, value), before);
        if (before >= 0 && random.nextInt(3) != 0) {
            due("alter back", x.alter(k, i, before), model.alter(k, i, before));
        }
    }

    private int someKept() {
        int came = model.count(7);
        int k = random.nextInt(came + 1);
        if (random.nextInt(12) == 0) {
            return k - 1;
        }
        for (int tries = 0; tries < 20 && model.kept(k, 0) < 0; tries++) {
            k = random.nextInt(came + 1);
        }
        return k;
    }

    private void type(String text) {
        due("clear", x.clear(), model.clear());
        for (int i = 0; i < text.length(); i++) {
            due("type " + text.charAt(i), x.type(text.charAt(i)), model.type(text.charAt(i)));
        }
    }

    private void playSmall(int kind) {
        if (random.nextInt(kind == 3 ? 2 : 5) == 0 || model.count(10) == 0) {
            String[] texts = {"add 0 1;", "add3 7;", "turn0 2;", "swap2 5;", "fill1 3 9;", "add7-3;", "set9 4;", "fill0 7 8;"};
            type(texts[random.nextInt(texts.length)]);
        }
        due("play", x.play(), model.play());
    }

    private void ask() {
        int k = someKept();
        int other = someKept();
        int i = random.nextInt(15) - 1;
        int form = random.nextInt(6) - 1;
        int depth = random.nextInt(5) == 0 ? random.nextInt(12) - 1 : random.nextInt(3);
        int what = random.nextInt(4) - 1;
        switch (random.nextInt(10)) {
            case 0: due("value " + i, x.value(i), model.value(i)); break;
            case 1: due("kept " + k + " " + i, x.kept(k, i), model.kept(k, i)); break;
            case 2: due("entry " + k + " " + i + " " + what, x.entry(k, i, what), model.entry(k, i, what)); break;
            case 3: due("read " + k + " " + form + " " + i, x.read(k, form, i), model.read(k, form, i)); break;
            case 4: due("cause " + k + " " + depth + " " + what, x.cause(k, depth, what), model.cause(k, depth, what)); break;
            case 5: due("apart " + k + " " + other, x.apart(k, other), model.apart(k, other)); break;
            case 6: due("fork " + k + " " + other, x.fork(k, other), model.fork(k, other)); break;
            case 7: due("nearest", x.nearest(), model.nearest()); break;
            case 8: due("count " + i, x.count(i), model.count(i)); break;
            default: due("fork " + other + " " + k, x.fork(other, k), model.fork(other, k)); break;
        }
    }

    private void scripts() {
        for (int form = random.nextInt(3); form > 0; form--) {
            due("raise", x.raise(), model.raise());
        }
        while (calls < CALLS - 90 && !CHECK.hasWrong()) {
            String text = script();
            type(text);
            due("play \"" + text + "\" in form " + model.count(0), x.play(), model.play());
            due("digest", x.digest(), model.digest());
        }
    }

    private String script() {
        StringBuilder text = new StringBuilder();
        int commands = random.nextInt(5);
        for (int i = 0; i < commands; i++) {
            addCommand(text);
        }
        for (int spoils = random.nextInt(3) - 1; spoils > 0; spoils--) {
            spoil(text);
        }
        if (random.nextInt(8) == 0) {
            text.setLength(random.nextInt(text.length() + 1));
        }
        text.setLength(Math.min(80, text.length()));
        return text.toString();
    }

    private void addCommand(StringBuilder text) {
        blanks(text, 0);
        int word = random.nextInt(5);
        text.append(new String[] {"set", "add", "swap", "fill", "turn"}[word]);
        int least = random.nextInt(13);
        blanks(text, 0);
        number(text, least);
        blanks(text, random.nextInt(20) == 0 ? 0 : 1);
        int next = word >= 3 ? Math.max(0, least + random.nextInt(5) - 1) : random.nextInt(12);
        if (word == 1 && random.nextBoolean()) {
            text.append('-');
        }
        number(text, word < 2 ? random.nextInt(100) : next);
        if (word == 3) {
            blanks(text, random.nextInt(20) == 0 ? 0 : 1);
            number(text, random.nextInt(100));
        }
        blanks(text, 0);
        text.append(';');
    }

    private void blanks(StringBuilder text, int least) {
        for (int n = least + Math.max(0, random.nextInt(6) - 4); n > 0; n--) {
            text.append(' ');
        }
    }

    private void number(StringBuilder text, int number) {
        if (random.nextInt(4) == 0 && number < 10) {
            text.append('0');
        }
        text.append(number);
        if (random.nextInt(40) == 0) {
            text.append(random.nextInt(10));
        }
    }

    private void spoil(StringBuilder text) {
        String signs = " ;-0123456789setadwpfilurnzA,\t";
        char sign = signs.charAt(random.nextInt(signs.length()));
        int at = random.nextInt(text.length() + 1);
        if (at == text.length() || random.nextInt(3) == 0) {
            text.insert(at, sign);
        } else if (random.nextBoolean()) {
            text.setCharAt(at, sign);
        } else {
            text.deleteCharAt(at);
        }
    }
}
