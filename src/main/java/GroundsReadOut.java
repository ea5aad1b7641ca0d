import java.util.Arrays;

/** A coffee-house whose cups are read for grounds; ../shared/DOC.md says what each call promises. */
public final class GroundsReadOut {
    public static final int NONE = -1, BAD = -2, STATE = -3, FULL = -4;
    public static final long NO = -4611686018427387904L;

    private static final int NOTHING = -11, OUTSIDE = -12, OTHER_SORT = -13, BELOW = -14;
    private static final int FAULT_FROM = -100;

    private static final int SAYINGS = 12, ALL = 4095, PAIRS = 6, PAIR_BITS = 63;
    private static final int MOST_HOUR = 999, MOST_NUMBER = 9, MOST_SLIPS = 99;
    private static final int MOST_CUPS = 6, MOST_REASONS = 12, MOST_READERS = 5, MOST_TEXTS = 6;
    private static final int MOST_BYTES = 160, SHEETS = 4, MOST_ITEMS = 40;
    private static final int HOURS_TOLD = 100, CHANCE_READINGS = 6, MOST_SEEDS = 10;

    private static final int READER = 0, CLERK = 1, DREAMER = 2, WIDOW = 3, PROPHET = 4, ARAB = 5;
    /** The KIND that each KIND is under. */
    private static final int[] ABOVE = {NONE, READER, READER, CLERK, DREAMER, READER};

    private static final int TURNS = 0, MISSES = 1, BOUNDS = 2, MOST_TOLD = 99;
    private static final String FIRST_RULE = "turns 0 ; misses saying ; bounds 9 ;";

    private final Shelf shelf;
    private final Scribe scribe;
    private final House now;
    private final House kept;
    /** Where readings and changes are tried that must not truly happen. */
    private final House thought;
    private final Sheet[] sheets;
    private boolean hasImage;

    public GroundsReadOut() {
        shelf = new Shelf();
        scribe = new Scribe();
        now = new House(shelf);
        kept = new House(shelf);
        thought = new House(shelf);
        sheets = new Sheet[SHEETS];
        for (int i = 0; i < SHEETS; i++) {
            sheets[i] = new Sheet();
        }
        for (int i = 0; i < FIRST_RULE.length(); i++) {
            scribe.put(FIRST_RULE.charAt(i));
        }
        shelf.keep(scribe.compiled());
        scribe.clear();
    }

    // ---- sayings, cups, reasons, readers

    public int set(int what, int of, int v) {
        if (!within(what, 0, 5) || !within(v, 0, mostOf(what)) || !now.has(what, of)) {
            return BAD;
        }
        int was = now.noted(what, of);
        now.note(what, of, v);
        return was;
    }

    public int cup(int grounds, int to) {
        if (!isSet(grounds) || !isSaying(to)) {
            return BAD;
        }
        return now.addCup(grounds, to);
    }

    public int reason(int set, int saying) {
        if (!isSet(set) || !isSaying(saying) || (set & 1 << saying) != 0) {
            return BAD;
        }
        return now.addReason(set, saying);
    }

    public int unsay() {
        if (now.reasons == 0) {
            return STATE;
        }
        now.dropReason();
        return now.reasons;
    }

    public int reader(int kind, int number) {
        if (!isKind(kind) || !within(number, 0, MOST_NUMBER)) {
            return BAD;
        }
        return now.addReader(kind, number);
    }

    public int told(int of, int what) {
        if (!within(what, 0, 9) || !now.has(what, of)) {
            return BAD;
        }
        return now.noted(what, of);
    }

    public int sees(int one, int cup, int what) {
        if (!now.hasReader(one) || !now.hasCup(cup) || !within(what, 0, 2)) {
            return BAD;
        }
        if (what == 0) {
            return now.seen(one, now.grounds[cup], now.ruled(TURNS, one, cup));
        }
        return what == 1 ? now.overlooked(one, now.ruled(MISSES, one, cup)) : now.readBy(one, cup);
    }

    // ---- texts

    public int feed(int letter) {
        if (!within(letter, 0, 255)) {
            return BAD;
        }
        return scribe.put(letter);
    }

    public int text() {
        if (shelf.isFull()) {
            return FULL;
        }
        Text written = scribe.compiled();
        scribe.clear();
        if (written == null) {
            return FAULT_FROM - scribe.fault;
        }
        return shelf.keep(written);
    }

    public int force(int text) {
        if (!within(text, 0, shelf.texts - 1)) {
            return BAD;
        }
        int was = now.rule;
        now.rule = text;
        return was;
    }

    // ---- reading out, what follows

    public int read(int one, int cup) {
        if (!now.hasReader(one) || !now.hasCup(cup)) {
            return BAD;
        }
        if (!now.isSteady(one) || now.hour == MOST_HOUR) {
            return STATE;
        }
        return now.reasons == MOST_REASONS ? FULL : now.readOut(one, cup);
    }

    public int follows(int set, int what) {
        if (!isSet(set) || !within(what, 0, 2)) {
            return BAD;
        }
        if (what == 1) {
            return now.stepsFrom(set);
        }
        int all = now.following(set, NONE);
        return what == 0 ? all : oneIf(isClash(all));
    }

    public int best(int what) {
        switch (what) {
            case 0:
                return now.base();
            case 1:
                return sizeOf(now.base());
            case 2:
                return now.peace(NONE);
            case 3:
                return sizeOf(now.peace(NONE));
            case 4:
                return now.strike();
            case 5:
                return now.vain();
            default:
                return BAD;
        }
    }

    public int why(int saying, int what) {
        if (!isSaying(saying) || !within(what, 0, 1)) {
            return BAD;
        }
        int cause = now.causeOf(saying);
        return what == 0 ? cause : sizeOf(cause);
    }

    public int next(int one, int what) {
        if (!now.hasReader(one) || !within(what, 0, 2)) {
            return BAD;
        }
        if (what == 2) {
            return now.dogs(one);
        }
        int cup = now.cupToRead(one);
        if (what == 0) {
            return cup;
        }
        return cup == NONE ? now.followers() : now.followersWith(one, cup);
    }

    public int alike(int one, int other) {
        if (!now.hasReader(one) || !now.hasReader(other) || one == other) {
            return BAD;
        }
        int same = 0;
        for (int cup = 0; cup < now.cups; cup++) {
            if (now.readBy(one, cup) == now.readBy(other, cup)) {
                same |= 1 << cup;
            }
        }
        return same;
    }

    public long share(int part) {
        if (!within(part, 0, 1)) {
            return NO;
        }
        return partOf(now.followers(), SAYINGS, part);
    }

    // ---- readings that were told

    public int tells(int sheet, int one, int what) {
        if (!isSheet(sheet) || !now.hasReader(one) || !within(what, 0, 6)) {
            return BAD;
        }
        Sheet row = sheets[sheet];
        if (row.isMissing()) {
            return NOTHING;
        }
        if (row.size > now.cups) {
            return BAD;
        }
        switch (what) {
            case 0:
                return now.firstOtherwise(row, one);
            case 1:
                return bitsOf(row, one, House.KIND, ARAB + 1);
            case 2:
                return bitsOf(row, one, House.NUMBER, MOST_NUMBER + 1);
            case 3:
                return hoursOf(row, one, false);
            case 4:
                return hoursOf(row, one, true);
            case 5:
                return bitsOf(row, one, House.RULE, shelf.texts);
            default:
                return readersOf(row);
        }
    }

    public int film(int sheet, int one) {
        if (!isSheet(sheet) || !now.hasReader(one)) {
            return BAD;
        }
        Sheet row = sheets[sheet];
        row.become(Sheet.SHORTS, now.cups);
        for (int cup = 0; cup < now.cups; cup++) {
            row.put(cup, now.readBy(one, cup));
        }
        return now.cups;
    }

    public int drawn(int seed, int n) {
        if (!within(n, 0, 12)) {
            return BAD;
        }
        return followersDrawn(seed, n);
    }

    public long chance(int seed, int m, int k, int part) {
        if (!within(m, 1, MOST_SEEDS) || !within(k, 0, SAYINGS) || !within(part, 0, 1)) {
            return NO;
        }
        int many = 0;
        for (int i = 0; i < m; i++) {
            if (followersDrawn(seed + i, CHANCE_READINGS) >= k) {
                many++;
            }
        }
        return partOf(many, m, part);
    }

    public int image() {
        kept.becomeLike(now);
        hasImage = true;
        return now.readers;
    }

    public int back() {
        if (!hasImage) {
            return STATE;
        }
        now.becomeLike(kept);
        return now.readers;
    }

    public int count(int what) {
        switch (what) {
            case 0:
                return now.readers;
            case 1:
                return now.cups;
            case 2:
                return now.reasons;
            case 3:
                return shelf.texts;
            case 4:
                return scribe.size;
            case 5:
                return now.rule;
            default:
                return BAD;
        }
    }

    // ---- the host

    public int sheet(int sheet, int sort, int n) {
        if (!isSheet(sheet) || !within(sort, Sheet.MISSING, Sheet.INTS)) {
            return BAD;
        }
        if (sort == Sheet.MISSING) {
            sheets[sheet].become(Sheet.MISSING, 0);
            return 1;
        }
        if (n > MOST_ITEMS) {
            return BAD;
        }
        if (n < 0) {
            return BELOW;
        }
        sheets[sheet].become(sort, n);
        return 1;
    }

    public int cell(int sheet, int i, int v) {
        if (!isSheet(sheet)) {
            return BAD;
        }
        Sheet row = sheets[sheet];
        if (row.isMissing()) {
            return NOTHING;
        }
        if (!row.hasItem(i)) {
            return OUTSIDE;
        }
        row.put(i, v);
        return 1;
    }

    public int copy(int sheet, int i, int other, int j, int n) {
        if (!isSheet(sheet) || !isSheet(other)) {
            return BAD;
        }
        Sheet from = sheets[sheet];
        Sheet to = sheets[other];
        if (from.isMissing() || to.isMissing()) {
            return NOTHING;
        }
        if (from.sort != to.sort) {
            return OTHER_SORT;
        }
        if (!from.hasRange(i, n) || !to.hasRange(j, n)) {
            return OUTSIDE;
        }
        System.arraycopy(from.items, i, to.items, j, n);
        return n;
    }

    public int house(int sheet, int sort, int from, int n) {
        if (!isSheet(sheet) || !within(sort, Sheet.BYTES, Sheet.INTS) || !within(n, 0, 5)) {
            return BAD;
        }
        Sheet row = sheets[sheet];
        if (row.isMissing()) {
            return NOTHING;
        }
        if (row.sort != sort) {
            return OTHER_SORT;
        }
        int came = 0;
        for (int k = 0; k < n; k++) {
            int at = from + 2 * k;
            if (!row.hasRange(at, 2)) {
                return OUTSIDE;
            }
            if (reader(row.items[at], row.items[at + 1]) >= 0) {
                came++;
            }
        }
        return came;
    }

    public int taken(int one, int k) {
        if (!isKind(k)) {
            return BAD;
        }
        if (!now.hasReader(one)) {
            return NOTHING;
        }
        return isUnder(now.kinds[one], k) ? now.numbers[one] : OTHER_SORT;
    }

    // ---- what a told reading could be of

    /** Of 0 .. many - 1 those (bits) by which all would be so, were what is noted of one that. */
    private int bitsOf(Sheet row, int one, int what, int many) {
        thought.becomeLike(now);
        int bits = 0;
        for (int v = 0; v < many; v++) {
            thought.note(what, one, v);
            if (thought.firstOtherwise(row, one) == NONE) {
                bits |= 1 << v;
            }
        }
        return bits;
    }

    private int hoursOf(Sheet row, int one, boolean least) {
        thought.becomeLike(now);
        int many = 0;
        for (int hour = 0; hour < HOURS_TOLD; hour++) {
            thought.hour = hour;
            if (thought.firstOtherwise(row, one) == NONE) {
                if (least) {
                    return hour;
                }
                many++;
            }
        }
        return least ? NONE : many;
    }

    private int readersOf(Sheet row) {
        int bits = 0;
        for (int one = 0; one < now.readers; one++) {
            if (now.firstOtherwise(row, one) == NONE) {
                bits |= 1 << one;
            }
        }
        return bits;
    }

    /** How many would follow after n readings that are drawn. */
    private int followersDrawn(int seed, int n) {
        thought.becomeLike(now);
        int last = seed;
        for (int i = 0; i < n && thought.reasons < MOST_REASONS; i++) {
            int z = drawAfter(last);
            int y = drawAfter(z);
            last = y;
            int one = (z >>> 9) % 8;
            int cup = (y >>> 9) % 8;
            if (thought.hasReader(one) && thought.hasCup(cup) && thought.isSteady(one)) {
                thought.readOut(one, cup);
            }
        }
        return thought.followers();
    }

    // ---- plain helpers

    private static int drawAfter(int last) {
        return last * 1103515245 + 12345;
    }

    private static boolean within(int v, int least, int most) {
        return v >= least && v <= most;
    }

    private static boolean isSet(int set) {
        return within(set, 0, ALL);
    }

    private static boolean isSaying(int saying) {
        return within(saying, 0, SAYINGS - 1);
    }

    private static boolean isKind(int kind) {
        return within(kind, READER, ARAB);
    }

    private static boolean isSheet(int sheet) {
        return within(sheet, 0, SHEETS - 1);
    }

    private static int oneIf(boolean so) {
        return so ? 1 : 0;
    }

    private static int mostOf(int what) {
        switch (what) {
            case House.HOUR:
                return MOST_HOUR;
            case House.TO:
                return SAYINGS - 1;
            case House.NUMBER:
                return MOST_NUMBER;
            case House.SLIPS:
                return MOST_SLIPS;
            default:
                return ALL;
        }
    }

    /** Of how many sayings a set is; NONE stays NONE. */
    private static int sizeOf(int set) {
        return set == NONE ? NONE : Integer.bitCount(set);
    }

    private static boolean isClash(int all) {
        return (all & all >> PAIRS & PAIR_BITS) != 0;
    }

    private static boolean isUnder(int kind, int k) {
        int up = kind;
        for (int i = 0; i < ABOVE.length && isKind(up); i++) {
            if (up == k) {
                return true;
            }
            up = ABOVE[up];
        }
        return false;
    }

    /** Part 0 is above, 1 below the line, of over / under in lowest terms. */
    private static long partOf(int over, int under, int part) {
        int common = commonDivisor(over, under);
        int whole = part == 0 ? over : under;
        return common < 1 ? whole : whole / common;
    }

    private static int commonDivisor(int over, int under) {
        for (int d = under; d > 1; d--) {
            if (over % d == 0 && under % d == 0) {
                return d;
            }
        }
        return 1;
    }

    /** A row of numbers that is kept for good and used again, so that no call makes a new one. */
    private static final class Sheet {
        private static final int MISSING = -1, BYTES = 0, SHORTS = 1, INTS = 2;

        private final int[] items = new int[MOST_ITEMS];
        private int sort = MISSING;
        private int size;

        boolean isMissing() {
            return sort == MISSING;
        }

        void become(int newSort, int n) {
            sort = newSort;
            size = Math.max(0, Math.min(n, MOST_ITEMS));
            Arrays.fill(items, 0);
        }

        boolean hasItem(int i) {
            return i >= 0 && i < size;
        }

        /** By subtraction, as i + n could pass the largest int. */
        boolean hasRange(int i, int n) {
            return i >= 0 && n >= 0 && i <= size && n <= size - i;
        }

        void put(int i, int v) {
            if (!hasItem(i)) {
                return;
            }
            if (sort == BYTES) {
                items[i] = (byte) v;
            } else if (sort == SHORTS) {
                items[i] = (short) v;
            } else {
                items[i] = v;
            }
        }
    }

    /** A TEXT as steps for a stack: a step's high half says what to do, its low half with what. */
    private static final class Text {
        private final int[] steps;
        private final int missesFrom;
        private final int boundsFrom;

        Text(int[] steps, int missesFrom, int boundsFrom) {
            this.steps = steps;
            this.missesFrom = missesFrom;
            this.boundsFrom = boundsFrom;
        }

        int worth(int part, int[] names, int[] stack) {
            int from = part == TURNS ? 0 : part == MISSES ? missesFrom : boundsFrom;
            int end = part == TURNS ? missesFrom : part == MISSES ? boundsFrom : steps.length;
            int top = 0;
            for (int at = from; at < end && at < steps.length; at++) {
                int sort = steps[at] >>> 16;
                int value = steps[at] & 0xFFFF;
                if (sort == Scribe.NUMBER || sort == Scribe.NAME) {
                    if (top >= stack.length || sort == Scribe.NAME && value >= names.length) {
                        return 0;
                    }
                    stack[top] = sort == Scribe.NUMBER ? value : names[value];
                    top++;
                } else if (sort == Scribe.NOT || sort == Scribe.NEGATE) {
                    if (top < 1) {
                        return 0;
                    }
                    stack[top - 1] = sort == Scribe.NEGATE ? -stack[top - 1] : stack[top - 1] == 0 ? 1 : 0;
                } else {
                    if (top < 2) {
                        return 0;
                    }
                    top--;
                    stack[top - 1] = joined(sort, stack[top - 1], stack[top]);
                }
            }
            return top == 1 ? stack[0] : 0;
        }

        private static int joined(int sort, int a, int b) {
            switch (sort) {
                case Scribe.OR:
                    return a != 0 || b != 0 ? 1 : 0;
                case Scribe.AND:
                    return a != 0 && b != 0 ? 1 : 0;
                case Scribe.LESS:
                    return a < b ? 1 : 0;
                case Scribe.SAME:
                    return a == b ? 1 : 0;
                case Scribe.PLUS:
                    return a + b;
                case Scribe.MINUS:
                    return a - b;
                default:
                    return a * b;
            }
        }
    }

    /** All TEXTS, shared by the house, its image and what is thought: an image does not keep them. */
    private static final class Shelf {
        private final Text[] row = new Text[MOST_TEXTS];
        /** Used again by each text that tells something, so that none makes its own. */
        private final int[] stack = new int[MOST_BYTES];
        private int texts;

        boolean isFull() {
            return texts >= MOST_TEXTS;
        }

        int keep(Text written) {
            if (isFull() || written == null) {
                return FULL;
            }
            row[texts] = written;
            texts++;
            return texts - 1;
        }
    }

    /** Holds THE TAPE and makes a TEXT of it. */
    private static final class Scribe {
        private static final int END = 0, WRONG = 1, NUMBER = 2, NAME = 3;
        private static final int KEY_TURNS = 4, KEY_MISSES = 5, KEY_BOUNDS = 6, OR = 7, AND = 8, NOT = 9;
        private static final int OPEN = 10, CLOSE = 11, STOP = 12, PLUS = 13, MINUS = 14, TIMES = 15;
        private static final int LESS = 16, SAME = 17, NEGATE = 18;
        /** Names are told from keys by standing at this number and above. */
        private static final int FIRST_NAME = 32;
        private static final int LEVEL_OR = 0, LEVEL_AND = 1, LEVEL_NOT = 2, LEVEL_SUM = 3, LEVEL_TERM = 4, LEVEL_ONE = 5;
        private static final int MOST_OPEN = 5, MOST_DIGITS = 4;

        private final int[] tape = new int[MOST_BYTES];
        private int size;
        /** Of each token: what it is, its number or which name, its first byte's place. */
        private final int[] sorts = new int[MOST_BYTES + 1];
        private final int[] values = new int[MOST_BYTES + 1];
        private final int[] places = new int[MOST_BYTES + 1];
        private int tokens;
        /** The first token that has not found its stand. */
        private int at;
        private final int[] steps = new int[MOST_BYTES];
        private int made;
        private int fault;

        int put(int letter) {
            if (size >= MOST_BYTES) {
                return FULL;
            }
            tape[size] = letter;
            size++;
            return size;
        }

        void clear() {
            size = 0;
        }

        /** The TEXT; null where THE TAPE is none: then fault is the place. */
        Text compiled() {
            splitTape();
            at = 0;
            made = 0;
            boolean well = clause(KEY_TURNS);
            int missesFrom = made;
            well = well && clause(KEY_MISSES);
            int boundsFrom = made;
            well = well && clause(KEY_BOUNDS) && sorts[at] == END;
            if (!well) {
                fault = places[at];
                return null;
            }
            return new Text(Arrays.copyOf(steps, made), missesFrom, boundsFrom);
        }

        /** A faulty token becomes WRONG, which can stand nowhere: so the first fault is always the parser's. */
        private void splitTape() {
            tokens = 0;
            int place = 0;
            for (int i = 0; i < MOST_BYTES && place < size; i++) {
                int end = tokenEnd(place);
                if (!isBlank(tape[place])) {
                    addToken(place, end);
                }
                place = end;
            }
            sorts[tokens] = END;
            places[tokens] = size;
        }

        private int tokenEnd(int place) {
            int end = place + 1;
            if (isLetter(tape[place])) {
                while (end < size && isLetter(tape[end])) {
                    end++;
                }
            } else if (isDigit(tape[place])) {
                while (end < size && isDigit(tape[end])) {
                    end++;
                }
            }
            return end;
        }

        private void addToken(int place, int end) {
            int sort;
            int value = 0;
            if (isLetter(tape[place])) {
                sort = wordSort(place, end);
            } else if (isDigit(tape[place])) {
                sort = end - place > MOST_DIGITS ? WRONG : NUMBER;
                for (int i = place; i < end && sort == NUMBER; i++) {
                    value = value * 10 + tape[i] - '0';
                }
            } else {
                sort = signSort(tape[place]);
            }
            if (sort >= FIRST_NAME) {
                value = sort - FIRST_NAME;
                sort = NAME;
            }
            sorts[tokens] = sort;
            values[tokens] = value;
            places[tokens] = place;
            tokens++;
        }

        private int wordSort(int place, int end) {
            if (spells(place, end, "turns")) {
                return KEY_TURNS;
            }
            if (spells(place, end, "misses")) {
                return KEY_MISSES;
            }
            if (spells(place, end, "bounds")) {
                return KEY_BOUNDS;
            }
            if (spells(place, end, "or")) {
                return OR;
            }
            if (spells(place, end, "and")) {
                return AND;
            }
            if (spells(place, end, "not")) {
                return NOT;
            }
            return nameSort(place, end);
        }

        private int nameSort(int place, int end) {
            if (spells(place, end, "grounds")) {
                return FIRST_NAME + House.NAME_GROUNDS;
            }
            if (spells(place, end, "saying")) {
                return FIRST_NAME + House.NAME_SAYING;
            }
            if (spells(place, end, "number")) {
                return FIRST_NAME + House.NAME_NUMBER;
            }
            if (spells(place, end, "hour")) {
                return FIRST_NAME + House.NAME_HOUR;
            }
            if (spells(place, end, "slips")) {
                return FIRST_NAME + House.NAME_SLIPS;
            }
            if (spells(place, end, "cup")) {
                return FIRST_NAME + House.NAME_CUP;
            }
            return WRONG;
        }

        private boolean spells(int place, int end, String word) {
            if (end - place != word.length()) {
                return false;
            }
            for (int i = 0; i < word.length(); i++) {
                if (tape[place + i] != word.charAt(i)) {
                    return false;
                }
            }
            return true;
        }

        private static int signSort(int letter) {
            switch (letter) {
                case '(':
                    return OPEN;
                case ')':
                    return CLOSE;
                case ';':
                    return STOP;
                case '+':
                    return PLUS;
                case '-':
                    return MINUS;
                case '*':
                    return TIMES;
                case '<':
                    return LESS;
                case '=':
                    return SAME;
                default:
                    return WRONG;
            }
        }

        private static boolean isLetter(int letter) {
            return letter >= 'a' && letter <= 'z';
        }

        private static boolean isDigit(int letter) {
            return letter >= '0' && letter <= '9';
        }

        private static boolean isBlank(int letter) {
            return letter == 32 || letter == 10;
        }

        private boolean clause(int key) {
            return accept(key) && phrase(LEVEL_OR, 0) && accept(STOP);
        }

        private boolean accept(int sort) {
            if (sorts[at] != sort) {
                return false;
            }
            at++;
            return true;
        }

        /** Each token makes one step at most, so the steps never outgrow their row. */
        private void make(int sort, int value) {
            if (made < MOST_BYTES) {
                steps[made] = sort << 16 | value;
                made++;
            }
        }

        /** From the loosest level to the tightest; open counts the ( , not and - around it. */
        private boolean phrase(int level, int open) {
            if (level >= LEVEL_ONE) {
                return one(open);
            }
            if (level == LEVEL_NOT && sorts[at] == NOT) {
                return negated(open);
            }
            if (!phrase(level + 1, open)) {
                return false;
            }
            int most = level == LEVEL_NOT ? 1 : MOST_BYTES;
            for (int i = 0; i < most && joins(level, sorts[at]); i++) {
                int sort = sorts[at];
                at++;
                if (!phrase(level + 1, open)) {
                    return false;
                }
                make(sort, 0);
            }
            return true;
        }

        private static boolean joins(int level, int sort) {
            switch (level) {
                case LEVEL_OR:
                    return sort == OR;
                case LEVEL_AND:
                    return sort == AND;
                case LEVEL_NOT:
                    return sort == LESS || sort == SAME;
                case LEVEL_SUM:
                    return sort == PLUS || sort == MINUS;
                case LEVEL_TERM:
                    return sort == TIMES;
                default:
                    return false;
            }
        }

        private boolean negated(int open) {
            if (open >= MOST_OPEN) {
                return false;
            }
            at++;
            if (!phrase(LEVEL_NOT, open + 1)) {
                return false;
            }
            make(NOT, 0);
            return true;
        }

        private boolean one(int open) {
            int sort = sorts[at];
            if (sort == NUMBER || sort == NAME) {
                make(sort, values[at]);
                at++;
                return true;
            }
            if (open >= MOST_OPEN) {
                return false;
            }
            if (sort == OPEN) {
                at++;
                return phrase(LEVEL_OR, open + 1) && accept(CLOSE);
            }
            if (sort != MINUS) {
                return false;
            }
            at++;
            if (!one(open + 1)) {
                return false;
            }
            make(NEGATE, 0);
            return true;
        }
    }

    /** All that an image keeps; indices and values given to it have been looked at by who calls. */
    private static final class House {
        private static final int SAID = 0, HOUR = 1, GROUNDS = 2, TO = 3, NUMBER = 4, SLIPS = 5;
        private static final int KIND = 6, STEADY = 7, REASON_SET = 8, REASON_SAYING = 9, RULE = 10;
        private static final int NAME_GROUNDS = 0, NAME_SAYING = 1, NAME_NUMBER = 2, NAME_HOUR = 3;
        private static final int NAME_SLIPS = 4, NAME_CUP = 5, NAMES = 6;

        private final Shelf shelf;
        private int said;
        private int hour;
        private int rule;
        private final int[] grounds = new int[MOST_CUPS];
        private final int[] to = new int[MOST_CUPS];
        private int cups;
        private final int[] sets = new int[MOST_REASONS];
        private final int[] borne = new int[MOST_REASONS];
        private int reasons;
        private final int[] kinds = new int[MOST_READERS];
        private final int[] numbers = new int[MOST_READERS];
        private final int[] slips = new int[MOST_READERS];
        private int readers;
        private final int[] names = new int[NAMES];

        House(Shelf shelf) {
            this.shelf = shelf;
        }

        void becomeLike(House other) {
            said = other.said;
            hour = other.hour;
            rule = other.rule;
            cups = other.cups;
            reasons = other.reasons;
            readers = other.readers;
            System.arraycopy(other.grounds, 0, grounds, 0, MOST_CUPS);
            System.arraycopy(other.to, 0, to, 0, MOST_CUPS);
            System.arraycopy(other.sets, 0, sets, 0, MOST_REASONS);
            System.arraycopy(other.borne, 0, borne, 0, MOST_REASONS);
            System.arraycopy(other.kinds, 0, kinds, 0, MOST_READERS);
            System.arraycopy(other.numbers, 0, numbers, 0, MOST_READERS);
            System.arraycopy(other.slips, 0, slips, 0, MOST_READERS);
        }

        boolean hasCup(int cup) {
            return cup >= 0 && cup < cups;
        }

        boolean hasReader(int one) {
            return one >= 0 && one < readers;
        }

        /** Whether there is what told() asks of. */
        boolean has(int what, int of) {
            switch (what) {
                case SAID:
                case HOUR:
                    return true;
                case GROUNDS:
                case TO:
                    return hasCup(of);
                case NUMBER:
                case SLIPS:
                case KIND:
                case STEADY:
                    return hasReader(of);
                case REASON_SET:
                case REASON_SAYING:
                    return of >= 0 && of < reasons;
                default:
                    return false;
            }
        }

        int noted(int what, int of) {
            switch (what) {
                case SAID:
                    return said;
                case HOUR:
                    return hour;
                case GROUNDS:
                    return grounds[of];
                case TO:
                    return to[of];
                case NUMBER:
                    return numbers[of];
                case SLIPS:
                    return slips[of];
                case KIND:
                    return kinds[of];
                case STEADY:
                    return oneIf(isSteady(of));
                case REASON_SET:
                    return sets[of];
                default:
                    return borne[of];
            }
        }

        void note(int what, int of, int v) {
            switch (what) {
                case SAID:
                    said = v;
                    break;
                case HOUR:
                    hour = v;
                    break;
                case GROUNDS:
                    grounds[of] = v;
                    break;
                case TO:
                    to[of] = v;
                    break;
                case NUMBER:
                    numbers[of] = v;
                    break;
                case SLIPS:
                    slips[of] = v;
                    break;
                case KIND:
                    kinds[of] = v;
                    break;
                case RULE:
                    rule = v;
                    break;
                default:
                    break;
            }
        }

        int addCup(int set, int saying) {
            if (cups >= MOST_CUPS) {
                return FULL;
            }
            grounds[cups] = set;
            to[cups] = saying;
            cups++;
            return cups - 1;
        }

        int addReason(int set, int saying) {
            if (reasons >= MOST_REASONS) {
                return FULL;
            }
            sets[reasons] = set;
            borne[reasons] = saying;
            reasons++;
            return reasons - 1;
        }

        void dropReason() {
            if (reasons > 0) {
                reasons--;
            }
        }

        int addReader(int kind, int number) {
            if (readers >= MOST_READERS) {
                return FULL;
            }
            kinds[readers] = kind;
            numbers[readers] = number;
            slips[readers] = 0;
            readers++;
            return readers - 1;
        }

        /** What THE RULE tells of one and a cup (NONE where a part knows of no cup). */
        int ruled(int part, int one, int cup) {
            if (rule < 0 || rule >= MOST_TEXTS || shelf.row[rule] == null) {
                return 0;
            }
            boolean ofCup = hasCup(cup);
            names[NAME_GROUNDS] = ofCup ? Integer.bitCount(grounds[cup]) : 0;
            names[NAME_SAYING] = ofCup ? to[cup] : 0;
            names[NAME_NUMBER] = numbers[one];
            names[NAME_HOUR] = hour;
            names[NAME_SLIPS] = slips[one];
            names[NAME_CUP] = ofCup ? cup : 0;
            int told = shelf.row[rule].worth(part, names, shelf.stack);
            return Math.max(part == BOUNDS ? 0 : -MOST_TOLD, Math.min(MOST_TOLD, told));
        }

        boolean isSteady(int one) {
            switch (kinds[one]) {
                case READER:
                case DREAMER:
                    return slips[one] < ruled(BOUNDS, one, NONE);
                case PROPHET:
                    return slips[one] < 2 * ruled(BOUNDS, one, NONE);
                default:
                    return true;
            }
        }

        /** What one sees of a set, turns telling v. */
        int seen(int one, int set, int v) {
            switch (kinds[one]) {
                case READER:
                    return turned(set, v);
                case CLERK:
                    return mirrored(turned(set, v));
                case DREAMER:
                    return turned(set, v) ^ 1 << numbers[one];
                case WIDOW:
                    return mirrored(turned(withoutLeast(set), v));
                case PROPHET:
                    return turned(ALL & ~set, v) ^ 1 << numbers[one];
                default:
                    return set;
            }
        }

        /** What one overlooks, misses telling v. */
        int overlooked(int one, int v) {
            int missed = 1 << Math.floorMod(v, SAYINGS);
            // A bit's negative has that bit and all above it.
            int fromMissed = ALL & -missed;
            switch (kinds[one]) {
                case READER:
                    return missed;
                case DREAMER:
                    return fromMissed;
                case WIDOW:
                    return 1 << numbers[one];
                case PROPHET:
                    return hour % 2 == 1 ? fromMissed : 0;
                default:
                    return 0;
            }
        }

        int readBy(int one, int cup) {
            int found = seen(one, grounds[cup], ruled(TURNS, one, cup));
            return found & ~overlooked(one, ruled(MISSES, one, cup)) & ~(1 << to[cup]);
        }

        private static int turned(int set, int turns) {
            int by = Math.floorMod(turns, SAYINGS);
            return ALL & (set << by | set >> SAYINGS - by);
        }

        private static int mirrored(int set) {
            int mirror = 0;
            for (int k = 0; k < SAYINGS; k++) {
                mirror |= (set >> k & 1) << SAYINGS - 1 - k;
            }
            return mirror;
        }

        private static int withoutLeast(int set) {
            return set & set - 1;
        }

        /** Looks neither at STEADY nor at HOUR's end: in thought the hour may pass it. */
        int readOut(int one, int cup) {
            int found = readBy(one, cup);
            if (addReason(found, to[cup]) == FULL) {
                return FULL;
            }
            if (found == 0) {
                slips[one] = Math.min(MOST_SLIPS, slips[one] + 1);
            }
            hour++;
            return found;
        }

        /** The set and what comes in one round, by all reasons but the one left out. */
        private int afterRound(int ahead, int leftOut) {
            int all = ahead;
            for (int i = 0; i < reasons; i++) {
                if (i != leftOut && (sets[i] & ~ahead) == 0) {
                    all |= 1 << borne[i];
                }
            }
            return all;
        }

        int following(int set, int leftOut) {
            int all = set;
            for (int i = 0; i < SAYINGS; i++) {
                int more = afterRound(all, leftOut);
                if (more == all) {
                    return all;
                }
                all = more;
            }
            return all;
        }

        int stepsFrom(int set) {
            int all = set;
            for (int steps = 0; steps < SAYINGS; steps++) {
                int more = afterRound(all, NONE);
                if (more == all) {
                    return steps;
                }
                all = more;
            }
            return SAYINGS;
        }

        int followers() {
            return Integer.bitCount(following(said, NONE));
        }

        int followersWith(int one, int cup) {
            if (addReason(readBy(one, cup), to[cup]) == FULL) {
                return followers();
            }
            int many = followers();
            dropReason();
            return many;
        }

        /** Going through sets from the least on, taking only better ones, leaves of like ones the least. */
        int base() {
            // What no reason bears must be of it.
            int open = said & borneByReasons();
            int fewest = said;
            int set = 0;
            for (int i = 0; i < 1 << Integer.bitCount(open); i++) {
                int whole = set | said & ~open;
                if (Integer.bitCount(whole) < Integer.bitCount(fewest) && (said & ~following(whole, NONE)) == 0) {
                    fewest = whole;
                }
                set = setAfter(set, open);
            }
            return fewest;
        }

        int peace(int leftOut) {
            if (isClash(following(0, leftOut))) {
                return NONE;
            }
            int most = 0;
            int set = 0;
            for (int i = 0; i < 1 << Integer.bitCount(said); i++) {
                if (Integer.bitCount(set) > Integer.bitCount(most) && !isClash(set) && !isClash(following(set, leftOut))) {
                    most = set;
                }
                set = setAfter(set, said);
            }
            return most;
        }

        int strike() {
            int struck = NONE;
            int most = NONE;
            for (int i = 0; i < reasons; i++) {
                int many = sizeOf(peace(i));
                if (struck == NONE || many > most) {
                    struck = i;
                    most = many;
                }
            }
            return struck;
        }

        int vain() {
            int bits = 0;
            for (int i = 0; i < reasons; i++) {
                if ((following(sets[i], i) & 1 << borne[i]) != 0) {
                    bits |= 1 << i;
                }
            }
            return bits;
        }

        int causeOf(int saying) {
            if ((borneByReasons() & 1 << saying) == 0) {
                return NONE;
            }
            // What no reason uses is never of a smallest cause: without it the same follows.
            int useful = usedByReasons() & ~(1 << saying);
            int fewest = useful;
            int set = 0;
            for (int i = 0; i < 1 << Integer.bitCount(useful); i++) {
                if (Integer.bitCount(set) < Integer.bitCount(fewest) && (following(set, NONE) & 1 << saying) != 0) {
                    fewest = set;
                }
                set = setAfter(set, useful);
            }
            return fewest;
        }

        private int usedByReasons() {
            int used = 0;
            for (int i = 0; i < reasons; i++) {
                used |= sets[i];
            }
            return used;
        }

        private int borneByReasons() {
            int bits = 0;
            for (int i = 0; i < reasons; i++) {
                bits |= 1 << borne[i];
            }
            return bits;
        }

        /** The next set of some sayings: taking them all away lends through every bit that isn't of them. */
        private static int setAfter(int set, int some) {
            return set - some & some;
        }

        int cupToRead(int one) {
            if (reasons >= MOST_REASONS) {
                return NONE;
            }
            int chosen = NONE;
            int most = NONE;
            for (int cup = 0; cup < cups; cup++) {
                int many = followersWith(one, cup);
                if (many > most) {
                    chosen = cup;
                    most = many;
                }
            }
            return chosen;
        }

        int dogs(int one) {
            int twos = 0;
            for (int cup = 0; cup < cups; cup++) {
                int found = readBy(one, cup);
                for (int other = cup + 1; other < cups; other++) {
                    if (readBy(one, other) == found) {
                        twos++;
                    }
                }
            }
            return twos;
        }

        int firstOtherwise(Sheet row, int one) {
            for (int i = 0; i < row.size && i < cups; i++) {
                if (row.items[i] != readBy(one, i)) {
                    return i;
                }
            }
            return NONE;
        }
    }
}
