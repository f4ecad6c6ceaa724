/**
 * Kept states of a game, each whole or by its differences from an earlier one.
 *
 * All rows are made by the constructors and used again, so no later call makes an object.
 */
public final class StateVault {
    public static final int NONE = -1, BAD = -2, STATE = -3, FULL = -4;

    private static final int FORMS = 3;
    private static final int VALUES = 12;
    private static final int GREATEST = 99;
    private static final int PLACES = 20;
    private static final int NUMBERS = 99;
    private static final int ENTRIES = 6;
    private static final int HISTORY = 6;
    private static final int BYTES = 80;
    private static final int FAULTS = -2000;

    private static final int LOST = 0, ALTERED = 1, BASELESS = 2;
    private static final int LINK_LIMIT = 0, RAISING = 1, SETTINGS = 2;
    private static final int PROPERTIES = 8, PARTS = 2, COUNTS = 13;

    private final Moment now = new Moment();
    private final Moment[] past = new Moment[HISTORY];
    private int pastSize = 0;
    private final Script script = new Script();
    private final Reading reading = new Reading();
    private final int[] first = new int[VALUES];
    private final int[] second = new int[VALUES];

    public StateVault() {
        for (int i = 0; i < HISTORY; i++) {
            past[i] = new Moment();
        }
    }

    public int type(int letter) {
        if (letter < 0 || letter > 127) {
            return BAD;
        }
        if (script.length >= BYTES) {
            return FULL;
        }
        script.text[script.length] = letter;
        script.length++;
        return script.length;
    }

    public int clear() {
        int before = script.length;
        script.length = 0;
        return before;
    }

    public int play() {
        int commands = script.run(now.values, sizeOf(now.form));
        if (commands >= 0) {
            remember();
            System.arraycopy(script.values, 0, now.values, 0, VALUES);
        }
        return commands;
    }

    public int raise() {
        if (now.form >= FORMS) {
            return STATE;
        }
        remember();
        raiseValues(now.values, now.form, now.form + 1);
        now.form++;
        return now.form;
    }

    public int keep() {
        if (now.size >= PLACES || now.came >= NUMBERS) {
            return FULL;
        }
        reading.readAll(now);
        remember();
        Kept fresh = now.places[now.size];
        fresh.number = now.came;
        fresh.form = now.form;
        fresh.sum = sumOf(now.values, now.form);
        int base = baseForGame();
        if (base == NONE) {
            fresh.makeWhole(now.values);
        } else {
            raiseRead(base, now.form, first);
            fresh.makeDifference(now.origin, first, now.values);
        }
        now.size++;
        now.came++;
        now.origin = fresh.number;
        return fresh.number;
    }

    public int load(int kept) {
        int place = now.placeOf(kept);
        if (place == NONE) {
            return BAD;
        }
        reading.readAll(now);
        if (reading.reasons[place] != NONE) {
            return STATE;
        }
        remember();
        int form = now.places[place].form;
        if (now.settings[RAISING] == 1) {
            form = Math.max(form, now.form);
        }
        raiseRead(place, form, now.values);
        now.form = form;
        now.origin = kept;
        return form;
    }

    public int drop(int kept, boolean mend) {
        int place = now.placeOf(kept);
        if (place == NONE) {
            return BAD;
        }
        reading.readAll(now);
        remember();
        if (mend) {
            mendFollowers(kept);
        }
        now.removePlace(place);
        if (now.origin == kept) {
            now.origin = NONE;
        }
        return now.followersOf(kept);
    }

    public int alter(int kept, int i, int value) {
        int place = now.placeOf(kept);
        if (place == NONE || value < 0 || value > GREATEST) {
            return BAD;
        }
        Kept altered = now.places[place];
        if (i < 0 || i >= altered.size) {
            return BAD;
        }
        remember();
        int before = altered.values[i];
        altered.values[i] = value;
        return before;
    }

    public int pack() {
        reading.readAll(now);
        remember();
        int before = now.weight();
        for (int place = 0; place < now.size; place++) {
            if (reading.reasons[place] == NONE) {
                packPlace(place);
            }
        }
        return before - now.weight();
    }

    public int set(int what, int value) {
        if (what < 0 || what >= SETTINGS) {
            return BAD;
        }
        int least = what == LINK_LIMIT ? 1 : 0;
        int greatest = what == LINK_LIMIT ? 8 : 1;
        if (value < least || value > greatest) {
            return BAD;
        }
        remember();
        int before = now.settings[what];
        now.settings[what] = value;
        return before;
    }

    public int undo() {
        if (pastSize <= 0) {
            return STATE;
        }
        pastSize--;
        now.copyFrom(past[pastSize]);
        return pastSize;
    }

    public int value(int i) {
        if (i < 0) {
            return BAD;
        }
        return i < sizeOf(now.form) ? now.values[i] : NONE;
    }

    public int kept(int kept, int what) {
        if (kept < 0 || what < 0 || what >= PROPERTIES) {
            return BAD;
        }
        int place = now.placeOf(kept);
        if (place == NONE) {
            return NONE;
        }
        reading.readAll(now);
        return propertyOf(place, what);
    }

    public int entry(int kept, int i, int what) {
        if (kept < 0 || i < 0 || what < 0 || what >= PARTS) {
            return BAD;
        }
        int place = now.placeOf(kept);
        if (place == NONE || i >= now.places[place].size) {
            return NONE;
        }
        Kept told = now.places[place];
        return what == 0 ? told.indexes[i] : told.values[i];
    }

    public int read(int kept, int form, int i) {
        int place = now.placeOf(kept);
        if (place == NONE || form < 0 || form > FORMS || i < 0) {
            return BAD;
        }
        int own = now.places[place].form;
        if (form != 0 && form < own) {
            return BAD;
        }
        reading.readAll(now);
        if (reading.reasons[place] != NONE) {
            return STATE;
        }
        int asked = form == 0 ? own : form;
        if (i >= sizeOf(asked)) {
            return NONE;
        }
        raiseRead(place, asked, first);
        return first[i];
    }

    public int cause(int kept, int depth, int what) {
        if (kept < 0 || kept >= now.came || depth < 0 || what < 0 || what >= PARTS) {
            return BAD;
        }
        reading.readAll(now);
        return causeOf(kept, depth, what);
    }

    public int apart(int kept, int other) {
        int place = now.placeOf(kept);
        int otherPlace = now.placeOf(other);
        if (place == NONE || otherPlace == NONE) {
            return BAD;
        }
        reading.readAll(now);
        if (reading.reasons[place] != NONE || reading.reasons[otherPlace] != NONE) {
            return STATE;
        }
        int form = Math.max(now.places[place].form, now.places[otherPlace].form);
        raiseRead(otherPlace, form, second);
        return distance(place, form, second);
    }

    public int fork(int kept, int other) {
        if (now.placeOf(kept) == NONE || now.placeOf(other) == NONE) {
            return BAD;
        }
        int one = kept;
        int two = other;
        // A base always came before, so the greater number can be in no further part of the other chain.
        for (int step = 0; step < 2 * NUMBERS && one != two && one != NONE && two != NONE; step++) {
            if (one > two) {
                one = now.baseOf(one);
            } else {
                two = now.baseOf(two);
            }
        }
        return one == two ? one : NONE;
    }

    public int nearest() {
        reading.readAll(now);
        return nearestToGame();
    }

    public int count(int what) {
        if (what < 0 || what >= COUNTS) {
            return BAD;
        }
        reading.readAll(now);
        return tally(what);
    }

    public long digest() {
        reading.readAll(now);
        long hash = 176;
        for (int what = 0; what < COUNTS; what++) {
            hash = 31 * hash + tally(what);
        }
        for (int i = 0; i < sizeOf(now.form); i++) {
            hash = 31 * hash + now.values[i];
        }
        for (int place = 0; place < now.size; place++) {
            hash = addPlace(hash, place);
        }
        hash = 31 * hash + nearestToGame();
        for (int i = 0; i < script.length; i++) {
            hash = 31 * hash + script.text[i];
        }
        return hash;
    }

    /** Puts the state of now into the history, whose oldest moment makes room if need be. */
    private void remember() {
        if (pastSize >= HISTORY) {
            Moment oldest = past[0];
            for (int i = 1; i < HISTORY; i++) {
                past[i - 1] = past[i];
            }
            past[HISTORY - 1] = oldest;
            pastSize = HISTORY - 1;
        }
        past[pastSize].copyFrom(now);
        pastSize++;
    }

    /** The place of the origin if the game can be kept as a difference from it; NONE otherwise. */
    private int baseForGame() {
        int place = now.placeOf(now.origin);
        if (place == NONE || !canBeBase(place, now.form)) {
            return NONE;
        }
        return distance(place, now.form, now.values) <= ENTRIES ? place : NONE;
    }

    /** Whether a difference of a form may be kept from what is in a place, but for the number of its entries. */
    private boolean canBeBase(int place, int form) {
        Kept base = now.places[place];
        return reading.reasons[place] == NONE
            && base.form <= form
            && now.linksOf(base.number) < now.settings[LINK_LIMIT];
    }

    private void mendFollowers(int number) {
        for (int place = 0; place < now.size; place++) {
            Kept follower = now.places[place];
            if (follower.base == number && reading.reasons[place] == NONE) {
                follower.makeWhole(reading.found[place]);
            }
        }
    }

    /** Packs what is in a place; the lesser places must have been packed, and the reading be that of before. */
    private void packPlace(int place) {
        Kept packed = now.places[place];
        int[] values = reading.found[place];
        int best = NONE;
        int fewest = ENTRIES + 1;
        for (int other = 0; other < place; other++) {
            if (canBeBase(other, packed.form)) {
                int entries = distance(other, packed.form, values);
                if (entries < fewest) {
                    fewest = entries;
                    best = other;
                }
            }
        }
        if (best == NONE) {
            packed.makeWhole(values);
        } else {
            raiseRead(best, packed.form, first);
            packed.makeDifference(now.places[best].number, first, values);
        }
    }

    private int propertyOf(int place, int what) {
        Kept told = now.places[place];
        switch (what) {
            case 0: return told.form;
            case 1: return told.sum;
            case 2: return told.base;
            case 3: return told.size;
            case 4: return now.linksOf(told.number);
            case 5: return reading.reasons[place] == NONE ? 1 : 0;
            case 6: return told.weight();
            default: return now.followersOf(told.number);
        }
    }

    private int tally(int what) {
        switch (what) {
            case 0: return now.form;
            case 1: return now.origin;
            case 2: return sumOf(now.values, now.form);
            case 3: return now.size;
            case 4: return now.wholeOnes();
            case 5: return unreadable();
            case 6: return now.weight();
            case 7: return now.came;
            case 8: return now.longestChain();
            case 9: return pastSize;
            case 10: return script.length;
            case 11: return now.settings[LINK_LIMIT];
            default: return now.settings[RAISING];
        }
    }

    private int unreadable() {
        int found = 0;
        for (int place = 0; place < now.size; place++) {
            if (reading.reasons[place] != NONE) {
                found++;
            }
        }
        return found;
    }

    private int reasonOf(int number) {
        int place = now.placeOf(number);
        return place == NONE ? LOST : reading.reasons[place];
    }

    private int causeOf(int kept, int depth, int what) {
        // A base has a lesser number than what is kept from it, so that no chain of causes is as long as this.
        if (depth > NUMBERS) {
            return NONE;
        }
        int number = kept;
        for (int step = 0; step < depth; step++) {
            if (reasonOf(number) != BASELESS) {
                return NONE;
            }
            number = now.baseOf(number);
        }
        int reason = reasonOf(number);
        if (reason == NONE) {
            return NONE;
        }
        return what == 0 ? reason : number;
    }

    private int nearestToGame() {
        int best = NONE;
        int fewest = VALUES + 1;
        for (int place = 0; place < now.size; place++) {
            Kept other = now.places[place];
            if (reading.reasons[place] == NONE && other.form <= now.form) {
                int different = distance(place, now.form, now.values);
                if (different < fewest) {
                    fewest = different;
                    best = other.number;
                }
            }
        }
        return best;
    }

    private long addPlace(long before, int place) {
        Kept told = now.places[place];
        long hash = 31 * before + told.number;
        for (int what = 0; what < PROPERTIES; what++) {
            hash = 31 * hash + propertyOf(place, what);
        }
        for (int i = 0; i < told.size; i++) {
            hash = 31 * hash + told.indexes[i];
            hash = 31 * hash + told.values[i];
        }
        return 31 * hash + reasonOf(told.number);
    }

    /** In how many of its values what was read from a place, raised to a form, differs from values of that form. */
    private int distance(int place, int form, int[] values) {
        raiseRead(place, form, first);
        int different = 0;
        for (int i = 0; i < sizeOf(form); i++) {
            if (first[i] != values[i]) {
                different++;
            }
        }
        return different;
    }

    /** Writes what was read from a place, raised to a form that is not less than its own. */
    private void raiseRead(int place, int form, int[] to) {
        System.arraycopy(reading.found[place], 0, to, 0, VALUES);
        raiseValues(to, now.places[place].form, form);
    }

    private static int sizeOf(int form) {
        return 6 + 2 * form;
    }

    private static int sumOf(int[] values, int form) {
        int sum = 7;
        for (int i = 0; i < sizeOf(form); i++) {
            sum = (31 * sum + values[i]) % 9973;
        }
        return sum;
    }

    private static void raiseValues(int[] values, int from, int to) {
        if (from <= 1 && to >= 2) {
            values[8] = (values[0] + values[1] + values[2]) / 3;
            values[9] = values[7];
        }
        if (from <= 2 && to >= 3) {
            int exchanged = values[1];
            values[1] = values[4];
            values[4] = exchanged;
            values[10] = Math.min(GREATEST, 2 * values[9]);
            values[11] = 50;
        }
    }

    /** A kept state; a whole one has an entry for every value, so that both are read in one way. */
    private static final class Kept {
        private int number = 0;
        private int form = 1;
        private int sum = 0;
        private int base = NONE;
        private int size = 0;
        private final int[] indexes = new int[VALUES];
        private final int[] values = new int[VALUES];

        private void copyKept(Kept other) {
            number = other.number;
            form = other.form;
            sum = other.sum;
            base = other.base;
            size = other.size;
            System.arraycopy(other.indexes, 0, indexes, 0, VALUES);
            System.arraycopy(other.values, 0, values, 0, VALUES);
        }

        private void makeWhole(int[] from) {
            base = NONE;
            size = sizeOf(form);
            for (int i = 0; i < size; i++) {
                indexes[i] = i;
                values[i] = from[i];
            }
        }

        private void makeDifference(int newBase, int[] baseValues, int[] from) {
            base = newBase;
            size = 0;
            for (int i = 0; i < sizeOf(form); i++) {
                if (from[i] != baseValues[i]) {
                    indexes[size] = i;
                    values[size] = from[i];
                    size++;
                }
            }
        }

        private int weight() {
            return base == NONE ? size : 2 + 2 * size;
        }
    }

    /** What a change changes and undo() restores: the game, the kept states and the settings. */
    private static final class Moment {
        private int form = 1;
        private int origin = NONE;
        private int came = 0;
        private int size = 0;
        private final int[] values = new int[VALUES];
        private final int[] settings = new int[SETTINGS];
        /** The kept states by ascending numbers; those from size on are free to be used again. */
        private final Kept[] places = new Kept[PLACES];

        private Moment() {
            settings[LINK_LIMIT] = 4;
            settings[RAISING] = 1;
            for (int i = 0; i < PLACES; i++) {
                places[i] = new Kept();
            }
        }

        private void copyFrom(Moment other) {
            form = other.form;
            origin = other.origin;
            came = other.came;
            size = other.size;
            System.arraycopy(other.values, 0, values, 0, VALUES);
            System.arraycopy(other.settings, 0, settings, 0, SETTINGS);
            for (int i = 0; i < size; i++) {
                places[i].copyKept(other.places[i]);
            }
        }

        private int placeOf(int number) {
            for (int place = 0; place < size; place++) {
                if (places[place].number == number) {
                    return place;
                }
            }
            return NONE;
        }

        /** The base of a kept state; NONE for a whole or a lost one, with which a chain ends. */
        private int baseOf(int number) {
            int place = placeOf(number);
            return place == NONE ? NONE : places[place].base;
        }

        private int linksOf(int number) {
            int links = 1;
            int base = baseOf(number);
            for (int step = 0; step < NUMBERS && base != NONE; step++) {
                links++;
                base = baseOf(base);
            }
            return links;
        }

        private int longestChain() {
            int longest = 0;
            for (int place = 0; place < size; place++) {
                longest = Math.max(longest, linksOf(places[place].number));
            }
            return longest;
        }

        private int followersOf(int number) {
            int followers = 0;
            for (int place = 0; place < size; place++) {
                if (places[place].base == number) {
                    followers++;
                }
            }
            return followers;
        }

        /** Those without a base: to be whole is kept as having the base NONE. */
        private int wholeOnes() {
            return followersOf(NONE);
        }

        private int weight() {
            int weight = 0;
            for (int place = 0; place < size; place++) {
                weight += places[place].weight();
            }
            return weight;
        }

        private void removePlace(int place) {
            Kept removed = places[place];
            for (int i = place + 1; i < size; i++) {
                places[i - 1] = places[i];
            }
            size--;
            places[size] = removed;
        }
    }

    /** The values that all kept states of a moment are read as, place by place, or the reasons why not. */
    private static final class Reading {
        private final int[][] found = new int[PLACES][VALUES];
        private final int[] reasons = new int[PLACES];

        /** One way up is enough, since each base stands in a lesser place than what is kept by it. */
        private void readAll(Moment moment) {
            for (int place = 0; place < moment.size; place++) {
                reasons[place] = readPlace(moment, place);
            }
        }

        private int readPlace(Moment moment, int place) {
            Kept kept = moment.places[place];
            int[] values = found[place];
            if (kept.base != NONE) {
                int base = moment.placeOf(kept.base);
                if (base == NONE || reasons[base] != NONE) {
                    return BASELESS;
                }
                System.arraycopy(found[base], 0, values, 0, VALUES);
                raiseValues(values, moment.places[base].form, kept.form);
            }
            for (int i = 0; i < kept.size; i++) {
                values[kept.indexes[i]] = kept.values[i];
            }
            return sumOf(values, kept.form) == kept.sum ? NONE : ALTERED;
        }
    }

    /** The text, and how it is read as a script and carried out on a copy of the game's values. */
    private static final class Script {
        private static final int SET = 0, ADD = 1, SWAP = 2, FILL = 3, TURN = 4;
        private static final int BLANK = 32;

        private final int[] text = new int[BYTES];
        private int length = 0;
        private final int[] values = new int[VALUES];
        private int size = 0;
        private int at = 0;
        private int fault = NONE;

        /** The number of commands, or what play() answers to a fault; values is of use only without one. */
        private int run(int[] game, int gameSize) {
            System.arraycopy(game, 0, values, 0, VALUES);
            size = gameSize;
            at = 0;
            fault = NONE;
            int commands = 0;
            skipBlanks();
            for (int step = 0; step < BYTES && at < length && fault == NONE; step++) {
                runCommand(takeWord());
                commands++;
                skipBlanks();
            }
            return fault == NONE ? commands : FAULTS - fault;
        }

        private void runCommand(int word) {
            switch (word) {
                case SET: runSet(); break;
                case ADD: runAdd(); break;
                case SWAP: runSwap(); break;
                case FILL: runFill(); break;
                case TURN: runTurn(); break;
                default: break;
            }
        }

        private void runSet() {
            int i = takeIndex(0);
            int amount = takeNumber();
            takeSemicolon();
            if (fault == NONE) {
                values[i] = amount;
            }
        }

        private void runAdd() {
            int i = takeIndex(0);
            int amount = takeAmount();
            takeSemicolon();
            if (fault == NONE) {
                values[i] = Math.max(0, Math.min(GREATEST, values[i] + amount));
            }
        }

        private void runSwap() {
            int i = takeIndex(0);
            int j = takeIndex(0);
            takeSemicolon();
            if (fault == NONE) {
                int exchanged = values[i];
                values[i] = values[j];
                values[j] = exchanged;
            }
        }

        private void runFill() {
            int from = takeIndex(0);
            int to = takeIndex(from);
            int amount = takeNumber();
            takeSemicolon();
            if (fault == NONE) {
                for (int i = from; i <= to; i++) {
                    values[i] = amount;
                }
            }
        }

        private void runTurn() {
            int from = takeIndex(0);
            int to = takeIndex(from);
            takeSemicolon();
            if (fault == NONE) {
                int last = values[to];
                for (int i = to; i > from; i--) {
                    values[i] = values[i - 1];
                }
                values[from] = last;
            }
        }

        /** Notes a fault; an earlier one stays, since what is taken after it is not really there. */
        private void failAt(int position) {
            if (fault == NONE) {
                fault = position;
            }
        }

        private boolean isDigitNext() {
            return at < length && text[at] >= '0' && text[at] <= '9';
        }

        private boolean isLetterNext() {
            return at < length && text[at] >= 'a' && text[at] <= 'z';
        }

        private boolean isNext(int sign) {
            return at < length && text[at] == sign;
        }

        private void skipBlanks() {
            while (at < length && text[at] == BLANK) {
                at++;
            }
        }

        private int takeWord() {
            int start = at;
            while (at < length && isLetterNext()) {
                at++;
            }
            int word = wordAt(start);
            if (word == NONE) {
                failAt(start);
            }
            return word;
        }

        private int wordAt(int start) {
            if (isSpelled("set", start)) {
                return SET;
            }
            if (isSpelled("add", start)) {
                return ADD;
            }
            if (isSpelled("swap", start)) {
                return SWAP;
            }
            if (isSpelled("fill", start)) {
                return FILL;
            }
            return isSpelled("turn", start) ? TURN : NONE;
        }

        private boolean isSpelled(String word, int start) {
            if (at - start != word.length()) {
                return false;
            }
            for (int i = 0; i < word.length(); i++) {
                if (text[start + i] != word.charAt(i)) {
                    return false;
                }
            }
            return true;
        }

        /** An index that the game has and that is at least the given one; 0 after a fault. */
        private int takeIndex(int least) {
            skipBlanks();
            int start = at;
            int index = takeDigits();
            // Before a third digit is looked for: the fault of the index itself has the lesser position.
            if (index < least || index >= size) {
                failAt(start);
            }
            if (isDigitNext()) {
                failAt(at);
            }
            return fault == NONE ? index : 0;
        }

        /** No number comes behind this one, so that a third digit is refused where the semicolon must stand. */
        private int takeNumber() {
            skipBlanks();
            return takeDigits();
        }

        private int takeAmount() {
            skipBlanks();
            if (!isNext('-')) {
                return takeNumber();
            }
            at++;
            return -takeDigits();
        }

        private int takeDigits() {
            if (!isDigitNext()) {
                failAt(at);
                return 0;
            }
            int number = text[at] - '0';
            at++;
            if (isDigitNext()) {
                number = 10 * number + text[at] - '0';
                at++;
            }
            return number;
        }

        private void takeSemicolon() {
            skipBlanks();
            if (isNext(';')) {
                at++;
            } else {
                failAt(at);
            }
        }
    }
}
