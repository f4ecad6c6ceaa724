import java.util.ArrayDeque;
import java.util.ArrayList;
import java.util.Deque;
import java.util.List;
import java.util.Map;
import java.util.TreeMap;
import java.util.TreeSet;
import java.util.regex.Matcher;
import java.util.regex.Pattern;

/**
 * The document once more, by other means: states are copied whole, chains are read by recursion,
 * and the fault of a text is found by asking a regular expression which beginnings can go on.
 */
final class Model {
    private static final int NONE = -1, BAD = -2, STATE = -3, FULL = -4;
    private static final Pattern[] SCRIPTS = {null, scripts(8), scripts(10), scripts(12)};

    private static final class Kept {
        final int form;
        final int sum;
        final Integer base;
        final TreeMap<Integer, Integer> entries;

        Kept(int form, int sum, Integer base, Map<Integer, Integer> entries) {
            this.form = form;
            this.sum = sum;
            this.base = base;
            this.entries = new TreeMap<>(entries);
        }

        int weight() {
            return base == null ? entries.size() : 2 + 2 * entries.size();
        }
    }

    private static final class Game {
        int form = 1;
        List<Integer> values = List.of(0, 0, 0, 0, 0, 0, 0, 0);
        Integer origin = null;
        TreeMap<Integer, Kept> kept = new TreeMap<>();
        int came = 0;
        int[] settings = {4, 1};

        Game copy() {
            Game copy = new Game();
            copy.form = form;
            copy.values = values;
            copy.origin = origin;
            copy.kept = new TreeMap<>(kept);
            copy.came = came;
            copy.settings = settings.clone();
            return copy;
        }
    }

    /** Either values, or the reasons from the one of the kept state itself down to the last cause. */
    private static final class Read {
        List<Integer> values = null;
        final List<int[]> reasons = new ArrayList<>();
    }

    private Game game = new Game();
    private final Deque<Game> history = new ArrayDeque<>();
    private String text = "";

    // Values

    private static List<Integer> raised(List<Integer> values, int from, int to) {
        List<Integer> v = new ArrayList<>(values);
        for (int form = from; form < to; form++) {
            if (form == 1) {
                v.add((v.get(0) + v.get(1) + v.get(2)) / 3);
                v.add(v.get(7));
            } else {
                v.set(1, v.set(4, v.get(1)));
                v.add(Math.min(99, v.get(9) * 2));
                v.add(50);
            }
        }
        return v;
    }

    private static int sum(List<Integer> values) {
        int sum = 7;
        for (int value : values) {
            sum = (31 * sum + value) % 9973;
        }
        return sum;
    }

    private static TreeMap<Integer, Integer> changed(List<Integer> from, List<Integer> to) {
        TreeMap<Integer, Integer> entries = new TreeMap<>();
        for (int i = 0; i < to.size(); i++) {
            if (!to.get(i).equals(from.get(i))) {
                entries.put(i, to.get(i));
            }
        }
        return entries;
    }

    private static Map<Integer, Integer> all(List<Integer> values) {
        Map<Integer, Integer> entries = new TreeMap<>();
        for (int i = 0; i < values.size(); i++) {
            entries.put(i, values.get(i));
        }
        return entries;
    }

    // Kept states

    private Read reading(int k) {
        Read read = new Read();
        Kept kept = game.kept.get(k);
        if (kept == null) {
            read.reasons.add(new int[] {0, k});
            return read;
        }
        List<Integer> values;
        if (kept.base == null) {
            values = new ArrayList<>(kept.entries.values());
        } else {
            Read base = reading(kept.base);
            if (base.values == null) {
                read.reasons.add(new int[] {2, k});
                read.reasons.addAll(base.reasons);
                return read;
            }
            values = raised(base.values, game.kept.get(kept.base).form, kept.form);
            for (Map.Entry<Integer, Integer> entry : kept.entries.entrySet()) {
                values.set(entry.getKey(), entry.getValue());
            }
        }
        if (sum(values) == kept.sum) {
            read.values = values;
        } else {
            read.reasons.add(new int[] {1, k});
        }
        return read;
    }

    private List<Integer> readAs(int k, int form) {
        Read read = reading(k);
        return read.values == null ? null : raised(read.values, game.kept.get(k).form, form);
    }

    private List<Integer> chain(int k) {
        List<Integer> chain = new ArrayList<>(List.of(k));
        Kept kept = game.kept.get(k);
        if (kept != null && kept.base != null) {
            chain.addAll(chain(kept.base));
        }
        return chain;
    }

    private int weight() {
        return game.kept.values().stream().mapToInt(Kept::weight).sum();
    }

    private void remember() {
        history.addLast(game.copy());
        if (history.size() > 6) {
            history.removeFirst();
        }
    }

    // Scripts

    private static String indexes(int from, int to) {
        List<String> written = new ArrayList<>();
        for (int i = from; i < to; i++) {
            written.add(String.valueOf(i));
            if (i < 10) {
                written.add("0" + i);
            }
        }
        return "(?:" + String.join("|", written) + ")";
    }

    private static Pattern scripts(int size) {
        String index = indexes(0, size);
        String number = "[0-9][0-9]?";
        List<String> commands = new ArrayList<>();
        commands.add("set *" + index + " +" + number);
        commands.add("add *" + index + "(?: +" + number + "| *-" + number + ")");
        commands.add("swap *" + index + " +" + index);
        for (int i = 0; i < size; i++) {
            String two = indexes(i, i + 1) + " +" + indexes(i, size);
            commands.add("fill *" + two + " +" + number);
            commands.add("turn *" + two);
        }
        return Pattern.compile("(?: *(?:" + String.join("|", commands) + ") *;)* *");
    }

    private boolean canGoOn(String beginning) {
        Matcher matcher = SCRIPTS[game.form].matcher(beginning);
        return matcher.matches() || matcher.hitEnd();
    }

    private static boolean isDigit(String text, int at) {
        return at >= 0 && at < text.length() && text.charAt(at) >= '0' && text.charAt(at) <= '9';
    }

    /** NONE, or the fault of the text. */
    private int fault() {
        if (SCRIPTS[game.form].matcher(text).matches()) {
            return NONE;
        }
        int p = 0;
        while (p < text.length() && canGoOn(text.substring(0, p + 1))) {
            p++;
        }
        int fault = p;
        if (isDigit(text, p) && isDigit(text, p - 1) && !isDigit(text, p - 2)) {
            // Second digits are only refused for the whole index.
            fault = p - 1;
        } else if (!isDigit(text, p) && isDigit(text, p - 1) && !canGoOn(text.substring(0, p) + " ")) {
            // The index began like one that would do.
            fault = isDigit(text, p - 2) ? p - 2 : p - 1;
        }
        Matcher letters = Pattern.compile("[a-z]+").matcher(text);
        while (letters.find()) {
            if (!letters.group().matches("set|add|swap|fill|turn")) {
                fault = Math.min(fault, letters.start());
            }
        }
        return fault;
    }

    private int carryOut() {
        List<Integer> v = new ArrayList<>(game.values);
        int commands = 0;
        for (String command : text.split(";")) {
            Matcher parts = Pattern.compile("[a-z]+|-?[0-9]+").matcher(command);
            if (!parts.find()) {
                continue;
            }
            commands++;
            String word = parts.group();
            List<Integer> n = new ArrayList<>();
            while (parts.find()) {
                n.add(Integer.parseInt(parts.group()));
            }
            switch (word) {
                case "set": v.set(n.get(0), n.get(1)); break;
                case "add": v.set(n.get(0), Math.min(99, Math.max(0, v.get(n.get(0)) + n.get(1)))); break;
                case "swap": java.util.Collections.swap(v, n.get(0), n.get(1)); break;
                case "fill": java.util.Collections.fill(v.subList(n.get(0), n.get(1) + 1), n.get(2)); break;
                default: java.util.Collections.rotate(v.subList(n.get(0), n.get(1) + 1), 1); break;
            }
        }
        game.values = v;
        return commands;
    }

    // The face

    int type(int letter) {
        if (letter < 0 || letter > 127) {
            return BAD;
        }
        if (text.length() == 80) {
            return FULL;
        }
        text += (char) letter;
        return text.length();
    }

    int clear() {
        int length = text.length();
        text = "";
        return length;
    }

    int play() {
        int fault = fault();
        if (fault != NONE) {
            return -2000 - fault;
        }
        remember();
        return carryOut();
    }

    int raise() {
        if (game.form == 3) {
            return STATE;
        }
        remember();
        game.values = raised(game.values, game.form, game.form + 1);
        return ++game.form;
    }

    int keep() {
        if (game.kept.size() == 20 || game.came == 99) {
            return FULL;
        }
        remember();
        Map<Integer, Integer> entries = all(game.values);
        Integer base = null;
        if (game.origin != null) {
            List<Integer> origin = readAs(game.origin, game.form);
            if (origin != null && chain(game.origin).size() < game.settings[0]) {
                Map<Integer, Integer> fewer = changed(origin, game.values);
                if (fewer.size() <= 6) {
                    entries = fewer;
                    base = game.origin;
                }
            }
        }
        game.kept.put(game.came, new Kept(game.form, sum(game.values), base, entries));
        game.origin = game.came;
        return game.came++;
    }

    int load(int k) {
        if (!game.kept.containsKey(k)) {
            return BAD;
        }
        if (reading(k).values == null) {
            return STATE;
        }
        remember();
        int own = game.kept.get(k).form;
        int form = game.settings[1] == 1 && game.form > own ? game.form : own;
        game.values = readAs(k, form);
        game.form = form;
        game.origin = k;
        return form;
    }

    int drop(int k, boolean mend) {
        if (!game.kept.containsKey(k)) {
            return BAD;
        }
        remember();
        int left = 0;
        for (Map.Entry<Integer, Kept> one : game.kept.entrySet()) {
            Kept kept = one.getValue();
            if (kept.base != null && kept.base == k) {
                List<Integer> values = reading(one.getKey()).values;
                if (mend && values != null) {
                    one.setValue(new Kept(kept.form, kept.sum, null, all(values)));
                } else {
                    left++;
                }
            }
        }
        game.kept.remove(k);
        if (game.origin != null && game.origin == k) {
            game.origin = null;
        }
        return left;
    }

    int alter(int k, int i, int value) {
        Kept kept = game.kept.get(k);
        if (kept == null || i < 0 || i >= kept.entries.size() || value < 0 || value > 99) {
            return BAD;
        }
        remember();
        Kept altered = new Kept(kept.form, kept.sum, kept.base, kept.entries);
        int before = altered.entries.put(new ArrayList<>(kept.entries.keySet()).get(i), value);
        game.kept.put(k, altered);
        return before;
    }

    int pack() {
        remember();
        int before = weight();
        TreeSet<Integer> toPack = new TreeSet<>();
        for (int k : game.kept.keySet()) {
            if (reading(k).values != null) {
                toPack.add(k);
            }
        }
        for (int k : toPack) {
            Kept kept = game.kept.get(k);
            List<Integer> values = reading(k).values;
            Kept packed = new Kept(kept.form, kept.sum, null, all(values));
            int fewest = 7;
            for (int base : toPack.headSet(k)) {
                if (game.kept.get(base).form <= kept.form && chain(base).size() < game.settings[0]) {
                    Map<Integer, Integer> entries = changed(readAs(base, kept.form), values);
                    if (entries.size() < fewest) {
                        fewest = entries.size();
                        packed = new Kept(kept.form, kept.sum, base, entries);
                    }
                }
            }
            game.kept.put(k, packed);
        }
        return before - weight();
    }

    int set(int what, int value) {
        boolean good = what == 0 ? value >= 1 && value <= 8 : what == 1 && (value == 0 || value == 1);
        if (!good) {
            return BAD;
        }
        remember();
        int before = game.settings[what];
        game.settings[what] = value;
        return before;
    }

    int undo() {
        if (history.isEmpty()) {
            return STATE;
        }
        game = history.removeLast();
        return history.size();
    }

    int value(int i) {
        return i < 0 ? BAD : i < game.values.size() ? game.values.get(i) : NONE;
    }

    int kept(int k, int what) {
        if (k < 0 || what < 0 || what > 7) {
            return BAD;
        }
        Kept kept = game.kept.get(k);
        if (kept == null) {
            return NONE;
        }
        int followers = 0;
        for (Kept other : game.kept.values()) {
            followers += other.base != null && other.base == k ? 1 : 0;
        }
        return new int[] {
            kept.form, kept.sum, kept.base == null ? NONE : kept.base, kept.entries.size(),
            chain(k).size(), reading(k).values == null ? 0 : 1, kept.weight(), followers,
        }[what];
    }

    int entry(int k, int i, int what) {
        if (k < 0 || i < 0 || what < 0 || what > 1) {
            return BAD;
        }
        Kept kept = game.kept.get(k);
        if (kept == null || i >= kept.entries.size()) {
            return NONE;
        }
        int index = new ArrayList<>(kept.entries.keySet()).get(i);
        return what == 0 ? index : kept.entries.get(index);
    }

    int read(int k, int form, int i) {
        Kept kept = game.kept.get(k);
        if (kept == null || form < 0 || form > 3 || form != 0 && form < kept.form || i < 0) {
            return BAD;
        }
        List<Integer> values = readAs(k, form == 0 ? kept.form : form);
        return values == null ? STATE : i < values.size() ? values.get(i) : NONE;
    }

    int cause(int k, int depth, int what) {
        if (k < 0 || k >= game.came || depth < 0 || what < 0 || what > 1) {
            return BAD;
        }
        List<int[]> reasons = reading(k).reasons;
        return depth < reasons.size() ? reasons.get(depth)[what] : NONE;
    }

    int apart(int k, int other) {
        if (!game.kept.containsKey(k) || !game.kept.containsKey(other)) {
            return BAD;
        }
        int form = Math.max(game.kept.get(k).form, game.kept.get(other).form);
        List<Integer> one = readAs(k, form);
        List<Integer> two = readAs(other, form);
        return one == null || two == null ? STATE : changed(one, two).size();
    }

    int fork(int k, int other) {
        if (!game.kept.containsKey(k) || !game.kept.containsKey(other)) {
            return BAD;
        }
        List<Integer> both = chain(k);
        both.retainAll(chain(other));
        return both.stream().mapToInt(Integer::intValue).max().orElse(NONE);
    }

    int nearest() {
        int best = NONE;
        int fewest = 99;
        for (int k : game.kept.keySet()) {
            List<Integer> values = game.kept.get(k).form <= game.form ? readAs(k, game.form) : null;
            if (values != null && changed(values, game.values).size() < fewest) {
                fewest = changed(values, game.values).size();
                best = k;
            }
        }
        return best;
    }

    int count(int what) {
        if (what < 0 || what > 12) {
            return BAD;
        }
        int whole = 0;
        int unreadable = 0;
        int longest = 0;
        for (int k : game.kept.keySet()) {
            whole += game.kept.get(k).base == null ? 1 : 0;
            unreadable += reading(k).values == null ? 1 : 0;
            longest = Math.max(longest, chain(k).size());
        }
        return new int[] {
            game.form, game.origin == null ? NONE : game.origin, sum(game.values), game.kept.size(),
            whole, unreadable, weight(), game.came, longest, history.size(), text.length(),
            game.settings[0], game.settings[1],
        }[what];
    }

    long digest() {
        List<Integer> numbers = new ArrayList<>();
        for (int what = 0; what <= 12; what++) {
            numbers.add(count(what));
        }
        numbers.addAll(game.values);
        for (int k : game.kept.keySet()) {
            numbers.add(k);
            for (int what = 0; what <= 7; what++) {
                numbers.add(kept(k, what));
            }
            for (int i = 0; i < kept(k, 3); i++) {
                numbers.add(entry(k, i, 0));
                numbers.add(entry(k, i, 1));
            }
            numbers.add(cause(k, 0, 0));
        }
        numbers.add(nearest());
        long hash = 176;
        for (int number : numbers) {
            hash = 31 * hash + number;
        }
        for (char letter : text.toCharArray()) {
            hash = 31 * hash + letter;
        }
        return hash;
    }
}
