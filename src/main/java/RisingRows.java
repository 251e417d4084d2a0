/**
 * Fractions between nought and one, told by rows of numbers in four ways.
 *
 * All that a call needs is made in the constructor and used again, because every
 * object of a run stays in one room until the run ends.
 */
public final class RisingRows {
    public static final int NONE = -1, BAD = -2, STATE = -3, FULL = -4;
    public static final long NO = Long.MIN_VALUE;

    private static final int NOT_ANY = -5;
    private static final int FAULT_BASE = -10;
    private static final int NOTHING = -11, CAST = -12, PLACE = -13, SIZE = -14;

    private static final int ROWS = 6, KINDS = 4, MOST_NUMBERS = 16;
    private static final int WIDEST = 1000000000, DIGITS_OF_WIDEST = 10;
    private static final int SYLVESTER = 0, ENGEL = 1, PIERCE = 2;
    private static final String KIND_LETTERS = "sepc";

    private static final int MOST_SPREAD = 999999, MOST_TOLD = 9999;
    private static final int LEAST_UNIT = 2, MOST_UNIT = 60, MOST_UNITS = 3;
    private static final int TRIED_NUMBERS = 100, SPOTS_A_ROW = 100;
    private static final int MOST_SEEN = 4, MOST_EVENTS = 8, MOST_BOOK = 8;
    private static final int LAST_GOES = 0, EACH_GROWS = 1, NEXT_KIND = 2;
    private static final int CUT_SHORT = 100;

    private static final int MOST_SIGNS = 100, MOST_SIGN = 127;
    private static final int MOST_CLAUSES = 12, MOST_VALUES = 4, MOST_DIGITS = 9;
    private static final int WORDS = 5, NO_WORD = -1, NO_VALUE = -1, NO_FAULT = -1;
    private static final int SPREAD_WORD = 0, ROW_WORD = 1, ADD_WORD = 2, CUT_WORD = 3;

    private static final int TAPES = 6, MOST_ITEMS = 60;
    private static final int EMPTY_TAPE = -1, BYTES = 0, SHORTS = 1, INTS = 2, BOOLEANS = 4;

    /** Euclid's way over numbers below 2 to the 63rd needs fewer than 100 steps. */
    private static final int EUCLID_STEPS = 200;

    private final Page now = new Page();
    private final Page kept = new Page();
    private boolean isKept;
    private final Script script = new Script();
    private final Tape[] tapes = new Tape[TAPES];
    private final Row trial = new Row();
    private final Fraction left = new Fraction();
    private final Fraction right = new Fraction();
    private final Fraction[] beginnings = new Fraction[MOST_NUMBERS];
    private final int[] foundUnits = new int[MOST_UNITS];

    public RisingRows() {
        for (int i = 0; i < TAPES; i++) {
            tapes[i] = new Tape();
        }
        for (int i = 0; i < MOST_NUMBERS; i++) {
            beginnings[i] = new Fraction();
        }
    }

    // ---- rows

    public int spread(int row, int kind, int up, int low) {
        if (!isRow(row) || !isKind(kind)) {
            return NONE;
        }
        if (!within(up, 1, MOST_SPREAD) || !within(low, 1, MOST_SPREAD) || up >= low) {
            return BAD;
        }
        left.become(up, low);
        now.rows[row].unfold(kind, left);
        return left.isNought() ? 1 : 0;
    }

    public int begin(int row, int kind) {
        if (!isRow(row) || !isKind(kind)) {
            return NONE;
        }
        int had = now.rows[row].size;
        now.rows[row].clear(kind);
        return had;
    }

    public int add(int row, int v) {
        if (!isRow(row)) {
            return NONE;
        }
        if (!isNumber(v)) {
            return BAD;
        }
        return now.rows[row].append(v) ? now.rows[row].size : FULL;
    }

    public int cut(int row, int n) {
        if (!isRow(row)) {
            return NONE;
        }
        int had = now.rows[row].size;
        if (!within(n, 0, had)) {
            return BAD;
        }
        now.rows[row].size = n;
        return had - n;
    }

    public int copies(int row, int from) {
        if (!isRow(row) || !isRow(from)) {
            return NONE;
        }
        now.rows[row].becomeAs(now.rows[from]);
        return now.rows[row].size;
    }

    public int works(int row, int a, int b, int how) {
        if (!isRow(row) || !isRow(a) || !isRow(b) || !within(how, 0, 2)) {
            return NONE;
        }
        now.rows[a].reckon(now.rows[a].size, left);
        now.rows[b].reckon(now.rows[b].size, right);
        if (!left.there || !right.there) {
            return STATE;
        }
        combine(how);
        if (!left.isProper()) {
            return STATE;
        }
        now.rows[row].unfold(now.rows[row].kind, left);
        return left.isNought() ? 1 : 0;
    }

    public int feed(int sign) {
        if (!within(sign, 0, MOST_SIGN)) {
            return BAD;
        }
        return script.take(sign) ? script.length : FULL;
    }

    public int read() {
        int fault = script.parse();
        script.length = 0;
        if (fault != NO_FAULT) {
            return FAULT_BASE - fault;
        }
        int done = 0;
        for (int c = 0; c < script.clauses; c++) {
            if (follow(c) >= 0) {
                done++;
            }
        }
        return done;
    }

    // ---- what is told

    public int of(int row, int i) {
        if (!isRow(row) || i < 0) {
            return NONE;
        }
        Row asked = now.rows[row];
        return i < asked.size ? asked.numbers[i] : NOT_ANY;
    }

    public int told(int row, int what) {
        if (!isRow(row) || !within(what, 0, 3)) {
            return NONE;
        }
        Row asked = now.rows[row];
        if (what == 0) {
            return asked.kind;
        }
        if (what == 1) {
            return asked.size;
        }
        if (what == 2) {
            return asked.flaw();
        }
        asked.reckon(asked.size, left);
        return left.there ? 1 : 0;
    }

    public long worth(int row, int part) {
        if (!isRow(row) || !isPart(part)) {
            return NO;
        }
        now.rows[row].reckon(now.rows[row].size, left);
        return left.partOf(part);
    }

    public int written(int row, int i) {
        if (!isRow(row) || i < 0) {
            return NONE;
        }
        return now.rows[row].signAt(i);
    }

    // ---- two rows, beginnings

    public int greater(int one, int other) {
        if (!isRow(one) || !isRow(other)) {
            return NONE;
        }
        if (now.rows[one].kind != now.rows[other].kind) {
            return STATE;
        }
        return now.rows[one].greaterByNumbers(now.rows[other]);
    }

    public int worthier(int one, int other) {
        if (!isRow(one) || !isRow(other)) {
            return NONE;
        }
        now.rows[one].reckon(now.rows[one].size, left);
        now.rows[other].reckon(now.rows[other].size, right);
        if (!left.there || !right.there) {
            return STATE;
        }
        if (left.isAbove(right)) {
            return 1;
        }
        return right.isAbove(left) ? 2 : 0;
    }

    public long beginning(int row, int m, int what, int part) {
        if (!isRow(row) || !within(m, 0, now.rows[row].size)) {
            return NO;
        }
        if (!within(what, 0, 1) || !isPart(part)) {
            return NO;
        }
        now.rows[row].reckon(m, left);
        if (what == 0) {
            return left.partOf(part);
        }
        now.rows[row].reckon(now.rows[row].size, right);
        right.takeAway(left);
        return right.partOf(part);
    }

    public int units(int up, int low, int what) {
        if (!within(up, 1, MOST_TOLD) || !within(low, 1, MOST_TOLD)) {
            return BAD;
        }
        if (!within(what, 0, MOST_UNITS)) {
            return NONE;
        }
        int fewest = findUnits(up, low);
        if (what > fewest) {
            return NOT_ANY;
        }
        return what == 0 ? fewest : foundUnits[what - 1];
    }

    // ---- seen, odds

    public int see(int row, int up, int low) {
        if (row == -1) {
            return now.seen.clear();
        }
        if (!isRow(row)) {
            return NONE;
        }
        if (!within(up, 1, MOST_TOLD) || !within(low, 1, MOST_TOLD)) {
            return BAD;
        }
        return now.seen.put(row, up, low);
    }

    public int fits(int row, int i, int what) {
        if (!isRow(row) || !within(i, 0, now.rows[row].size - 1) || !within(what, 0, 1)) {
            return NONE;
        }
        if (!othersAreAsSeen(row)) {
            return what == 0 ? 0 : NOT_ANY;
        }
        trial.becomeAs(now.rows[row]);
        int many = 0;
        int least = NOT_ANY;
        for (int v = TRIED_NUMBERS - 1; v >= 0; v--) {
            trial.numbers[i] = v;
            trial.reckon(trial.size, left);
            if (isAsSeen(row, left)) {
                many++;
                least = v;
            }
        }
        return what == 0 ? many : least;
    }

    public long odds(int one, int other, int part) {
        if (!isRow(one) || !isRow(other) || !isPart(part)) {
            return NO;
        }
        int ways = now.rows[one].size * now.rows[other].size;
        if (ways == 0) {
            return NO;
        }
        left.become(countAbove(now.rows[one], now.rows[other]), ways);
        return left.partOf(part);
    }

    public long mean(int part) {
        if (!isPart(part)) {
            return NO;
        }
        int many = 0;
        left.become(0, 1);
        for (int r = 0; r < ROWS; r++) {
            now.rows[r].reckon(now.rows[r].size, right);
            if (right.there) {
                many++;
                left.addOn(right.up, right.low);
            }
        }
        left.divideBy(many);
        return left.partOf(part);
    }

    // ---- events, books

    public int event(int what, int n) {
        if (what == -1) {
            return now.events.clear();
        }
        if (!within(what, LAST_GOES, NEXT_KIND) || !isRow(n)) {
            return NONE;
        }
        return now.events.put(what, n, 0);
    }

    public int after(int row, int what) {
        if (!isRow(row) || !within(what, 0, 2)) {
            return NONE;
        }
        trial.becomeAs(now.rows[row]);
        for (int e = 0; e < now.events.size; e++) {
            if (now.events.second[e] == row) {
                trial.undergo(now.events.first[e]);
            }
        }
        if (what == 0) {
            return trial.size;
        }
        return what == 1 ? trial.flaw() : trial.kind;
    }

    public int book(int spot, int v) {
        if (spot == -1) {
            return now.bookRows.clear();
        }
        if (!isSpotNow(spot)) {
            return NONE;
        }
        if (!isNumber(v)) {
            return BAD;
        }
        return now.bookRows.put(spot, v, 0);
    }

    public int looked() {
        for (int b = 0; b < now.bookRows.size; b++) {
            int spot = now.bookRows.first[b];
            if (!isSpotNow(spot) || numberAtSpot(spot) != now.bookRows.second[b]) {
                return b;
            }
        }
        return NOT_ANY;
    }

    // ---- judging, the image, tapes

    public int judge(int row, int tape, int i) {
        if (!isRow(row) || !isTape(tape)) {
            return NONE;
        }
        Tape by = tapes[tape];
        if (by.sort != EMPTY_TAPE && by.sort != INTS) {
            return CAST;
        }
        Row judged = now.rows[row];
        for (int k = 0; k < judged.size; k++) {
            long place = (long) i + k;
            if (i < 0 || place >= by.size) {
                return CUT_SHORT + k;
            }
            if (by.items[(int) place] != judged.numbers[k]) {
                return k;
            }
        }
        return NOT_ANY;
    }

    public int image() {
        kept.becomeAs(now);
        isKept = true;
        return now.numbersInAll();
    }

    public int undo() {
        if (!isKept) {
            return STATE;
        }
        now.becomeAs(kept);
        return now.numbersInAll();
    }

    public int count(int what) {
        switch (what) {
            case 0:
                return now.seen.size;
            case 1:
                return now.events.size;
            case 2:
                return now.bookRows.size;
            case 3:
                return script.length;
            default:
                return BAD;
        }
    }

    public int tape(int tape, int sort, int n) {
        if (!isTape(tape)) {
            return NONE;
        }
        if (sort == EMPTY_TAPE) {
            tapes[tape].clear(EMPTY_TAPE, 0);
            return 1;
        }
        if (!within(sort, BYTES, BOOLEANS) || n > MOST_ITEMS) {
            return BAD;
        }
        if (n < 0) {
            return SIZE;
        }
        tapes[tape].clear(sort, n);
        return 1;
    }

    public int item(int tape, int i, long v) {
        if (!isTape(tape)) {
            return NONE;
        }
        if (tapes[tape].sort == EMPTY_TAPE) {
            return NOTHING;
        }
        return tapes[tape].put(i, v) ? 1 : PLACE;
    }

    public long peek(int tape, int i) {
        if (!isTape(tape) || !within(i, 0, tapes[tape].size - 1)) {
            return NO;
        }
        return tapes[tape].items[i];
    }

    public int shift(int tape, int i, int other, int j, int n) {
        if (!isTape(tape) || !isTape(other)) {
            return NONE;
        }
        Tape from = tapes[tape];
        Tape to = tapes[other];
        if (from.sort == EMPTY_TAPE || to.sort == EMPTY_TAPE) {
            return NOTHING;
        }
        if (from.sort != to.sort) {
            return CAST;
        }
        if (!from.holds(i, n) || !to.holds(j, n)) {
            return PLACE;
        }
        System.arraycopy(from.items, i, to.items, j, n);
        return n;
    }

    // ---- helpers of the calls

    private static boolean within(int v, int least, int most) {
        return v >= least && v <= most;
    }

    private static boolean isRow(int row) {
        return within(row, 0, ROWS - 1);
    }

    private static boolean isKind(int kind) {
        return within(kind, 0, KINDS - 1);
    }

    private static boolean isNumber(int v) {
        return within(v, 0, WIDEST);
    }

    private static boolean isPart(int part) {
        return within(part, 0, 1);
    }

    private static boolean isTape(int tape) {
        return within(tape, 0, TAPES - 1);
    }

    /** A set-up's clauses go through the calls themselves, so both refuse alike. */
    private int follow(int clause) {
        int a = script.valueOf(clause, 0);
        int b = script.valueOf(clause, 1);
        switch (script.wordOf(clause)) {
            case SPREAD_WORD:
                return spread(a, b, script.valueOf(clause, 2), script.valueOf(clause, 3));
            case ROW_WORD:
                return begin(a, b);
            case ADD_WORD:
                return add(a, b);
            case CUT_WORD:
                return cut(a, b);
            default:
                return copies(a, b);
        }
    }

    private void combine(int how) {
        if (how == 0) {
            left.addOn(right.up, right.low);
        } else if (how == 1) {
            left.takeAway(right);
        } else {
            left.multiplyBy(right);
        }
    }

    /** Fills foundUnits by the fewest numbers, in the order in which rows come first. */
    private int findUnits(long up, long low) {
        foundUnits[0] = lastUnit(up, low, LEAST_UNIT - 1);
        if (foundUnits[0] > 0) {
            return 1;
        }
        for (int a = LEAST_UNIT; a <= MOST_UNIT; a++) {
            foundUnits[0] = a;
            foundUnits[1] = lastUnit(up * a - low, low * a, a);
            if (foundUnits[1] > 0) {
                return 2;
            }
        }
        for (int a = LEAST_UNIT; a <= MOST_UNIT; a++) {
            foundUnits[0] = a;
            if (findPair(up * a - low, low * a, a)) {
                return 3;
            }
        }
        return NOT_ANY;
    }

    private boolean findPair(long up, long low, int above) {
        for (int b = above + 1; b <= MOST_UNIT; b++) {
            foundUnits[1] = b;
            foundUnits[2] = lastUnit(up * b - low, low * b, b);
            if (foundUnits[2] > 0) {
                return true;
            }
        }
        return false;
    }

    /** The number that alone makes up the rest, so that no loop has to look for it; 0: none. */
    private static int lastUnit(long up, long low, int above) {
        if (up <= 0 || low % up != 0) {
            return 0;
        }
        long unit = low / up;
        return unit > above && unit <= MOST_UNIT ? (int) unit : 0;
    }

    private boolean othersAreAsSeen(int row) {
        for (int r = 0; r < ROWS; r++) {
            if (r != row) {
                now.rows[r].reckon(now.rows[r].size, left);
                if (!isAsSeen(r, left)) {
                    return false;
                }
            }
        }
        return true;
    }

    private boolean isAsSeen(int row, Fraction worth) {
        for (int s = 0; s < now.seen.size; s++) {
            if (now.seen.first[s] == row && !worth.isJust(now.seen.second[s], now.seen.third[s])) {
                return false;
            }
        }
        return true;
    }

    private int countAbove(Row first, Row second) {
        for (int k = 0; k < second.size; k++) {
            second.reckon(k + 1, beginnings[k]);
        }
        int above = 0;
        for (int m = 1; m <= first.size; m++) {
            first.reckon(m, left);
            for (int k = 0; k < second.size; k++) {
                if (left.isAbove(beginnings[k])) {
                    above++;
                }
            }
        }
        return above;
    }

    private boolean isSpotNow(int spot) {
        if (spot < 0) {
            return false;
        }
        int row = spot / SPOTS_A_ROW;
        return isRow(row) && spot % SPOTS_A_ROW < now.rows[row].size;
    }

    /** Asked only of a spot that is there now. */
    private int numberAtSpot(int spot) {
        return of(spot / SPOTS_A_ROW, spot % SPOTS_A_ROW);
    }

    /** A fraction in lowest terms that is not wide, or the mark that there is none. */
    private static final class Fraction {
        private long up;
        private long low = 1;
        private boolean there = true;

        /** What isn't there is held as 0 by 1, so that no later product can overflow. */
        private void vanish() {
            up = 0;
            low = 1;
            there = false;
        }

        private void become(long above, long below) {
            long divisor = below > 0 ? greatestDivisor(Math.abs(above), below) : 0;
            if (divisor <= 0) {
                vanish();
                return;
            }
            up = above / divisor;
            low = below / divisor;
            there = true;
            if (Math.abs(up) > WIDEST || low > WIDEST) {
                vanish();
            }
        }

        private static long greatestDivisor(long a, long b) {
            long greater = a;
            long lesser = b;
            for (int step = 0; step < EUCLID_STEPS && lesser != 0; step++) {
                long rest = greater % lesser;
                greater = lesser;
                lesser = rest;
            }
            return greater;
        }

        private void addOn(long above, long below) {
            if (there) {
                become(up * below + above * low, low * below);
            }
        }

        private void takeAway(Fraction other) {
            if (!there || !other.there) {
                vanish();
                return;
            }
            addOn(-other.up, other.low);
        }

        private void multiplyBy(Fraction other) {
            if (!there || !other.there) {
                vanish();
                return;
            }
            become(up * other.up, low * other.low);
        }

        private void becomeRestOfOne() {
            if (there) {
                become(low - up, low);
            }
        }

        private void divideBy(long divisor) {
            if (there) {
                become(up, low * divisor);
            }
        }

        private boolean isNought() {
            return there && up == 0;
        }

        private boolean isProper() {
            return there && up > 0 && up < low;
        }

        private boolean isAbove(Fraction other) {
            return there && other.there && up * other.low > other.up * low;
        }

        private boolean isJust(long above, long below) {
            return there && up * below == above * low;
        }

        private long partOf(int part) {
            if (!there) {
                return NO;
            }
            return part == 0 ? up : low;
        }
    }

    /** Numbers of a kind. */
    private static final class Row {
        private int kind;
        private int size;
        private final int[] numbers = new int[MOST_NUMBERS];

        private void clear(int newKind) {
            kind = newKind;
            size = 0;
        }

        private boolean append(int v) {
            if (size >= MOST_NUMBERS) {
                return false;
            }
            numbers[size] = v;
            size++;
            return true;
        }

        private void becomeAs(Row from) {
            kind = from.kind;
            size = from.size;
            System.arraycopy(from.numbers, 0, numbers, 0, MOST_NUMBERS);
        }

        private void reckon(int first, Fraction worth) {
            worth.become(0, 1);
            for (int i = Math.min(first, size) - 1; i >= 0 && worth.there; i--) {
                fold(i, worth);
            }
        }

        /** Each step goes through lowest terms by itself: what stands in brackets may be wide, too. */
        private void fold(int i, Fraction worth) {
            long a = numbers[i];
            if (kind == SYLVESTER) {
                worth.addOn(1, a);
            } else if (kind == ENGEL) {
                worth.addOn(1, 1);
                worth.divideBy(a);
            } else if (kind == PIERCE) {
                worth.becomeRestOfOne();
                worth.divideBy(a);
            } else {
                worth.addOn(a, 1);
                worth.divideBy(i + 2);
            }
        }

        /** What is left of u tells whether it ended: nought, if so. */
        private void unfold(int newKind, Fraction u) {
            clear(newKind);
            for (int i = 0; i < MOST_NUMBERS && u.isProper(); i++) {
                long a = nextNumber(u);
                if (a > WIDEST) {
                    return;
                }
                takeOut(a, u);
                if (!u.there) {
                    return;
                }
                append((int) a);
            }
        }

        private long nextNumber(Fraction u) {
            if (kind == SYLVESTER || kind == ENGEL) {
                return u.up > 0 ? (u.low + u.up - 1) / u.up : 0;
            }
            if (kind == PIERCE) {
                return u.up > 0 ? u.low / u.up : 0;
            }
            return u.low > 0 ? u.up * (size + 2) / u.low : 0;
        }

        private void takeOut(long a, Fraction u) {
            if (kind == SYLVESTER) {
                u.become(u.up * a - u.low, u.low * a);
            } else if (kind == ENGEL) {
                u.become(u.up * a - u.low, u.low);
            } else if (kind == PIERCE) {
                u.become(u.low - u.up * a, u.low);
            } else {
                u.become(u.up * (size + 2) - a * u.low, u.low);
            }
        }

        private int flaw() {
            if (size == 0) {
                return 0;
            }
            for (int i = 0; i < size; i++) {
                if (i == 0 ? isFirstAmiss() : isLaterAmiss(i)) {
                    return i;
                }
            }
            return NOT_ANY;
        }

        private boolean isFirstAmiss() {
            int a = numbers[0];
            if (kind == SYLVESTER || kind == ENGEL) {
                return a < 2;
            }
            if (kind == PIERCE) {
                return a < 1 || size == 1 && a == 1;
            }
            return a > 1 || size == 1 && a == 0;
        }

        private boolean isLaterAmiss(int i) {
            long a = numbers[i];
            long before = numbers[i - 1];
            boolean isLast = i == size - 1;
            if (kind == SYLVESTER) {
                return a < before * (before - 1) + 1;
            }
            if (kind == ENGEL) {
                return a < before;
            }
            if (kind == PIERCE) {
                return a <= before || isLast && a == before + 1;
            }
            return a > i + 1 || isLast && a == 0;
        }

        private int greaterByNumbers(Row other) {
            int both = Math.min(size, other.size);
            int i = 0;
            while (i < both && numbers[i] == other.numbers[i]) {
                i++;
            }
            if (i == size && i == other.size) {
                return 0;
            }
            boolean turned = kind == PIERCE && i % 2 == 1;
            boolean isFirst;
            if (i < both) {
                boolean lesserWins = kind == SYLVESTER || kind == ENGEL || kind == PIERCE && !turned;
                isFirst = (numbers[i] < other.numbers[i]) == lesserWins;
            } else {
                isFirst = (i < size) != turned;
            }
            return isFirst ? 1 : 2;
        }

        private void undergo(int what) {
            if (what == LAST_GOES) {
                size = Math.max(0, size - 1);
            } else if (what == EACH_GROWS) {
                for (int i = 0; i < size; i++) {
                    numbers[i] = Math.min(numbers[i] + 1, WIDEST);
                }
            } else {
                kind = (kind + 1) % KINDS;
            }
        }

        /** Found by walking past the numbers, so that no text has to be made. */
        private int signAt(int i) {
            if (i == 0) {
                return KIND_LETTERS.charAt(kind);
            }
            if (i == 1) {
                return ':';
            }
            int left = i - 2;
            for (int k = 0; k < size; k++) {
                int digits = digitsIn(numbers[k]);
                if (left < digits) {
                    return digitAt(numbers[k], digits - 1 - left);
                }
                if (left == digits) {
                    return k < size - 1 ? ',' : NOT_ANY;
                }
                left -= digits + 1;
            }
            return NOT_ANY;
        }

        private static int digitsIn(int v) {
            int digits = 1;
            for (int rest = v / 10; digits < DIGITS_OF_WIDEST && rest > 0; rest /= 10) {
                digits++;
            }
            return digits;
        }

        private static int digitAt(int v, int fromRight) {
            int rest = v;
            for (int k = 0; k < fromRight; k++) {
                rest /= 10;
            }
            return '0' + rest % 10;
        }
    }

    /** Rows of up to three numbers that are told by hand. */
    private static final class Listing {
        private final int[] first;
        private final int[] second;
        private final int[] third;
        private int size;

        private Listing(int most) {
            int length = Math.max(0, most);
            first = new int[length];
            second = new int[length];
            third = new int[length];
        }

        private int clear() {
            size = 0;
            return 0;
        }

        private int put(int a, int b, int c) {
            if (size >= first.length) {
                return FULL;
            }
            first[size] = a;
            second[size] = b;
            third[size] = c;
            size++;
            return size;
        }

        private void becomeAs(Listing from) {
            clear();
            for (int i = 0; i < from.size; i++) {
                put(from.first[i], from.second[i], from.third[i]);
            }
        }
    }

    /** All that an image holds. */
    private static final class Page {
        private final Row[] rows = new Row[ROWS];
        private final Listing seen = new Listing(MOST_SEEN);
        private final Listing events = new Listing(MOST_EVENTS);
        private final Listing bookRows = new Listing(MOST_BOOK);

        private Page() {
            for (int r = 0; r < ROWS; r++) {
                rows[r] = new Row();
            }
        }

        private void becomeAs(Page from) {
            for (int r = 0; r < ROWS; r++) {
                rows[r].becomeAs(from.rows[r]);
            }
            seen.becomeAs(from.seen);
            events.becomeAs(from.events);
            bookRows.becomeAs(from.bookRows);
        }

        private int numbersInAll() {
            int all = 0;
            for (int r = 0; r < ROWS; r++) {
                all += rows[r].size;
            }
            return all;
        }
    }

    /** The text of a set-up, and the clauses that it was read as. */
    private static final class Script {
        private final byte[] signs = new byte[MOST_SIGNS];
        private int length;
        private int place;
        private int clauses;
        private final int[] words = new int[MOST_CLAUSES];
        private final int[] values = new int[MOST_CLAUSES * MOST_VALUES];

        private boolean take(int sign) {
            if (length >= MOST_SIGNS) {
                return false;
            }
            signs[length] = (byte) sign;
            length++;
            return true;
        }

        private int wordOf(int clause) {
            return clause >= 0 && clause < clauses ? words[clause] : NO_WORD;
        }

        private int valueOf(int clause, int k) {
            boolean isThere = clause >= 0 && clause < clauses && k >= 0 && k < MOST_VALUES;
            return isThere ? values[clause * MOST_VALUES + k] : NO_VALUE;
        }

        /** The whole text is looked at ahead of the first clause: by a fault none is done. */
        private int parse() {
            clauses = 0;
            place = 0;
            while (clauses < MOST_CLAUSES) {
                if (!parseClause(clauses)) {
                    return place;
                }
                clauses++;
                if (place >= length) {
                    return NO_FAULT;
                }
                if (signs[place] != ';' || clauses == MOST_CLAUSES) {
                    return place;
                }
                place++;
            }
            return place;
        }

        /** Where it fails, place is left at the byte that can't stand there. */
        private boolean parseClause(int clause) {
            int word = parseWord();
            if (word == NO_WORD) {
                return false;
            }
            words[clause] = word;
            for (int k = 0; k < valuesDue(word); k++) {
                int value = parseValue();
                if (value == NO_VALUE) {
                    return false;
                }
                values[clause * MOST_VALUES + k] = value;
            }
            return true;
        }

        private int parseWord() {
            int longest = 0;
            for (int word = 0; word < WORDS; word++) {
                String text = wordText(word);
                int alike = signsAlike(text);
                if (alike == text.length()) {
                    place += alike;
                    return word;
                }
                longest = Math.max(longest, alike);
            }
            place += longest;
            return NO_WORD;
        }

        private int signsAlike(String text) {
            int alike = 0;
            while (alike < text.length() && place + alike < length
                    && signs[place + alike] == text.charAt(alike)) {
                alike++;
            }
            return alike;
        }

        private int parseValue() {
            if (place >= length || signs[place] != ' ') {
                return NO_VALUE;
            }
            place++;
            int value = 0;
            int digits = 0;
            while (digits < MOST_DIGITS && place < length && isDigit(signs[place])) {
                value = value * 10 + (signs[place] - '0');
                digits++;
                place++;
            }
            return digits > 0 ? value : NO_VALUE;
        }

        private static boolean isDigit(int sign) {
            return sign >= '0' && sign <= '9';
        }

        private static int valuesDue(int word) {
            return word == SPREAD_WORD ? MOST_VALUES : 2;
        }

        private static String wordText(int word) {
            switch (word) {
                case SPREAD_WORD:
                    return "spread";
                case ROW_WORD:
                    return "row";
                case ADD_WORD:
                    return "add";
                case CUT_WORD:
                    return "cut";
                default:
                    return "copy";
            }
        }
    }

    /** Items are kept as longs, cut to their sort when they come. */
    private static final class Tape {
        private int sort = EMPTY_TAPE;
        private int size;
        private final long[] items = new long[MOST_ITEMS];

        private void clear(int newSort, int newSize) {
            sort = newSort;
            size = newSize;
            for (int i = 0; i < MOST_ITEMS; i++) {
                items[i] = 0;
            }
        }

        private boolean holds(int from, int n) {
            return from >= 0 && n >= 0 && (long) from + n <= size;
        }

        private boolean put(int i, long v) {
            if (i < 0 || i >= size) {
                return false;
            }
            items[i] = asItem(v);
            return true;
        }

        private long asItem(long v) {
            switch (sort) {
                case BYTES:
                    return (byte) v;
                case SHORTS:
                    return (short) v;
                case INTS:
                    return (int) v;
                case BOOLEANS:
                    return v != 0 ? 1 : 0;
                default:
                    return v;
            }
        }
    }
}
