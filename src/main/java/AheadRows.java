/**
 * A laboratory for linear recurrences and sequences that are made of them, as the document AheadRows tells it.
 *
 * Every table stands in the object from its constructor on and is used again: no call makes an object or an array.
 */
public final class AheadRows {
    public static final int NONE = 2000000001, FAR = 2000000002, UNKNOWN = 2000000101, OUTSIDE = 2000000102, STATE = 2000000103, FULL = 2000000104;

    private static final int TOLD = 0, SUM = 1, PRODUCT = 2, EACH = 3, STEP = 4, BOTH = 5, OVER = 6;
    private static final int C = 0, D = 1, E = 2, F = 3;
    private static final int ONE = 0, OTHER = 1, N = 1, S = 2;

    private static final int MOST_ROWS = 8, MOST_GIVEN = 8, MOST_LETTERS = 47;
    private static final int MOST_FACTOR = 9, MOST_START = 999;
    private static final int NUMBERS_OF_A_ROW = 4;
    private static final int LAST_TERM = 200, FARTHEST = 1000000000;
    private static final int LEAST_MODULUS = 2, MOST_MODULUS = 10, MODULI = 9;

    private final Ledger ledger = new Ledger();
    private final Numbers given = new Numbers(MOST_GIVEN);
    private final Numbers page = new Numbers(MOST_LETTERS);
    private final Reader reader = new Reader();
    private final Explanation explanation = new Explanation();
    private final Terms terms = new Terms();
    private final Remainders remainders = new Remainders();
    private final Complexity complexity = new Complexity();
    private final Cycle drawnCycle = new Cycle(5);
    private final Ledger keptLedger = new Ledger();
    private final Numbers keptGiven = new Numbers(MOST_GIVEN);
    private boolean imageStands;
    private int timesRead;

    public AheadRows() {
    }

    // ---- texts

    public int letter(int code) {
        if (!isWithin(code, 32, 126)) {
            return OUTSIDE;
        }
        return page.append(code) ? page.size() : FULL;
    }

    public int blank() {
        int before = page.size();
        page.clear();
        return before;
    }

    public int fault() {
        return reader.faultOf(page);
    }

    public int rows() {
        if (!reader.isWhole(page)) {
            return STATE;
        }
        ledger.copyFrom(reader.draft());
        changedFrom(0);
        page.clear();
        imageStands = false;
        timesRead++;
        return ledger.size();
    }

    // ---- rows

    public int row(int row, int what) {
        if (!ledger.holds(row)) {
            return UNKNOWN;
        }
        if (!isWithin(what, 0, NUMBERS_OF_A_ROW)) {
            return OUTSIDE;
        }
        int kind = ledger.kindOf(row);
        if (what == 0) {
            return kind;
        }
        return what <= numbersOf(kind) ? ledger.numberOf(row, what - 1) : NONE;
    }

    public int as(int row, int as) {
        if (!ledger.holds(row)) {
            return UNKNOWN;
        }
        if (!isWithin(as, TOLD, OVER)) {
            return OUTSIDE;
        }
        int kind = ledger.kindOf(row);
        return kind == as || classAbove(kind) == as ? kind : NONE;
    }

    public int term(int row, int number) {
        if (!ledger.holds(row)) {
            return UNKNOWN;
        }
        if (!isWithin(number, 0, LAST_TERM)) {
            return OUTSIDE;
        }
        return terms.at(ledger, row, number);
    }

    public int by(int row, int number, int m) {
        if (!ledger.holds(row)) {
            return UNKNOWN;
        }
        if (number < 0 || !isModulus(m)) {
            return OUTSIDE;
        }
        return remainders.cycleOf(ledger, row, m).at(number);
    }

    public int lap(int row, int m, int what) {
        if (!ledger.holds(row)) {
            return UNKNOWN;
        }
        if (!isModulus(m) || !isWithin(what, 0, 2)) {
            return OUTSIDE;
        }
        Cycle cycle = remainders.cycleOf(ledger, row, m);
        int lap = cycle.shortestLap();
        if (what == 0) {
            return lap;
        }
        int head = cycle.headFor(lap);
        return what == 1 ? head : cycle.noughtsFrom(head, lap);
    }

    public int least(int row, int p, int what) {
        if (!ledger.holds(row)) {
            return UNKNOWN;
        }
        if (!isPrime(p) || !isWithin(what, 0, Complexity.MOST_UNIQUE)) {
            return OUTSIDE;
        }
        complexity.examine(remainders.cycleOf(ledger, row, p), p);
        if (what == 0) {
            return complexity.length();
        }
        return complexity.length() > Complexity.MOST_UNIQUE ? NONE : complexity.factor(what);
    }

    public int rule(int row, int what) {
        if (!ledger.holds(row)) {
            return UNKNOWN;
        }
        if (!isWithin(what, 0, 4)) {
            return OUTSIDE;
        }
        int degree = Rule.degreeOf(ledger, row);
        if (degree == 0) {
            return STATE;
        }
        return what == 0 ? degree : Rule.factorOf(ledger, row, what);
    }

    public int roots(int row, int what) {
        if (!ledger.holds(row)) {
            return UNKNOWN;
        }
        if (!isWithin(what, 0, 4)) {
            return OUTSIDE;
        }
        if (!ledger.isTold(row)) {
            return STATE;
        }
        int c = ledger.numberOf(row, C);
        int d = ledger.numberOf(row, D);
        switch (what) {
            case 0:
                return Roots.differentReal(c, d);
            case 1:
                return Roots.greater(c, d);
            case 2:
                return Roots.lesser(c, d);
            case 3:
                return Roots.order(c, d);
            default:
                return Roots.farthestSign(c, d);
        }
    }

    // ---- noughts

    public int noughts(int row) {
        if (!ledger.holds(row)) {
            return UNKNOWN;
        }
        int set = 0;
        for (int k = 0; k < 24; k++) {
            if (terms.at(ledger, row, k) == 0) {
                set |= 1 << k;
            }
        }
        return set;
    }

    public int ends(int row) {
        if (!ledger.holds(row)) {
            return UNKNOWN;
        }
        for (int m = LEAST_MODULUS; m <= MOST_MODULUS; m++) {
            if (lap(row, m, 2) == 0) {
                return m;
            }
        }
        return NONE;
    }

    public int open(int row, int what) {
        if (!ledger.holds(row)) {
            return UNKNOWN;
        }
        if (!isWithin(what, 0, 1)) {
            return OUTSIDE;
        }
        int found = 0;
        int greatest = NONE;
        for (int k = 0; k < 1000; k++) {
            if (isOpenAt(row, k)) {
                found++;
                greatest = k;
            }
        }
        return what == 0 ? found : greatest;
    }

    public int meets(int one, int other, int m) {
        if (!ledger.holds(one) || !ledger.holds(other)) {
            return UNKNOWN;
        }
        if (!isModulus(m)) {
            return OUTSIDE;
        }
        return remainders.cycleOf(ledger, one, m).firstMeeting(remainders.cycleOf(ledger, other, m));
    }

    // ---- what is done

    public int told(int c, int d, int e, int f) {
        return isTellable(c, d, e, f) ? added(TOLD, c, d, e, f) : OUTSIDE;
    }

    public int sum(int one, int other) {
        return ledger.holds(one) && ledger.holds(other) ? added(SUM, one, other, 0, 0) : UNKNOWN;
    }

    public int product(int one, int other) {
        return ledger.holds(one) && ledger.holds(other) ? added(PRODUCT, one, other, 0, 0) : UNKNOWN;
    }

    public int each(int row, int n, int s) {
        if (!ledger.holds(row)) {
            return UNKNOWN;
        }
        return isWithin(n, 1, 5) && isWithin(s, 0, 9) ? added(EACH, row, n, s, 0) : OUTSIDE;
    }

    public int step(int row) {
        return ledger.holds(row) ? added(STEP, row, 0, 0, 0) : UNKNOWN;
    }

    public int put(int row, int what, int v) {
        if (!ledger.holds(row)) {
            return UNKNOWN;
        }
        if (!isWithin(what, C, F)) {
            return OUTSIDE;
        }
        if (!ledger.isTold(row)) {
            return STATE;
        }
        int most = what == C || what == D ? MOST_FACTOR : MOST_START;
        if (!isWithin(v, -most, most)) {
            return OUTSIDE;
        }
        int before = ledger.numberOf(row, what);
        ledger.setNumber(row, what, v);
        changedFrom(row);
        return before;
    }

    public int drop() {
        if (ledger.size() == 0) {
            return STATE;
        }
        ledger.removeLast();
        changedFrom(ledger.size());
        return ledger.size();
    }

    public int ease(int row) {
        if (!ledger.holds(row)) {
            return UNKNOWN;
        }
        int kind = ledger.kindOf(row);
        if (!isEasy(row)) {
            return STATE;
        }
        int c = kind == SUM ? numberOfPart(row, ONE, C) : Rule.factorOf(ledger, row, 1);
        int d = kind == SUM ? numberOfPart(row, ONE, D) : Rule.factorOf(ledger, row, 2);
        int e = terms.at(ledger, row, 0);
        int f = terms.at(ledger, row, 1);
        // FAR lies outside the range of E and F, so a far term is refused here too.
        if (!isTellable(c, d, e, f)) {
            return STATE;
        }
        ledger.write(row, TOLD, c, d, e, f);
        changedFrom(row);
        return kind;
    }

    // ---- what is given

    public int give(int v) {
        if (!isWithin(v, -99, 99)) {
            return OUTSIDE;
        }
        return given.append(v) ? given.size() : FULL;
    }

    public int forget() {
        int before = given.size();
        given.clear();
        return before;
    }

    public int guess(int what) {
        if (!isWithin(what, 0, 2)) {
            return OUTSIDE;
        }
        if (!explanation.isFoundFor(given)) {
            return NONE;
        }
        if (what == 0) {
            return explanation.degree();
        }
        return what == 1 ? explanation.u() : explanation.v();
    }

    public int found() {
        if (!explanation.isFoundFor(given)) {
            return STATE;
        }
        switch (explanation.degree()) {
            case 0:
                return added(TOLD, 0, 0, 0, 0);
            case 1:
                return added(TOLD, explanation.u(), 0, given.at(0), explanation.u() * given.at(0));
            default:
                return added(TOLD, explanation.u(), explanation.v(), given.at(0), given.at(1));
        }
    }

    public int drawn(int times, int seed, int what) {
        if (!isWithin(times, 1, 30) || seed < 0 || !isWithin(what, 0, 2)) {
            return OUTSIDE;
        }
        int state = seed;
        int laps = 0;
        int degenerate = 0;
        for (int i = 0; i < times; i++) {
            int afterC = nextState(state);
            int afterD = nextState(afterC);
            int afterE = nextState(afterD);
            state = nextState(afterE);
            int c = numberDrawnAt(afterC);
            int d = numberDrawnAt(afterD);
            drawnCycle.fillTold(c, d, numberDrawnAt(afterE), numberDrawnAt(state));
            laps += drawnCycle.shortestLap();
            if (Roots.order(c, d) != 0) {
                degenerate++;
            }
        }
        if (what == 0) {
            return laps;
        }
        return what == 1 ? degenerate : state;
    }

    // ---- what is told of all

    public int image() {
        if (ledger.size() == 0) {
            return STATE;
        }
        keptLedger.copyFrom(ledger);
        keptGiven.copyFrom(given);
        imageStands = true;
        return ledger.size();
    }

    public int restore() {
        if (!imageStands) {
            return STATE;
        }
        ledger.copyFrom(keptLedger);
        given.copyFrom(keptGiven);
        changedFrom(0);
        return ledger.size();
    }

    public int count(int what) {
        switch (what) {
            case 0:
                return ledger.size();
            case 1:
                return toldRows();
            case 2:
                return degenerateRows();
            case 3:
                return given.size();
            case 4:
                return page.size();
            case 5:
                return timesRead;
            default:
                return OUTSIDE;
        }
    }

    public long digest() {
        long h = 1493;
        for (int row = 0; row < ledger.size(); row++) {
            h = digestWithRow(h, row);
        }
        for (int i = 0; i < given.size(); i++) {
            h = 31 * h + given.at(i);
        }
        for (int what = 0; what <= 2; what++) {
            h = 31 * h + guess(what);
        }
        for (int i = 0; i < page.size(); i++) {
            h = 31 * h + page.at(i);
        }
        for (int what = 0; what <= 5; what++) {
            h = 31 * h + count(what);
        }
        return h;
    }

    private long digestWithRow(long before, int row) {
        long h = before;
        for (int what = 0; what <= 4; what++) {
            h = 31 * h + row(row, what);
        }
        for (int number = 0; number <= 7; number++) {
            h = 31 * h + term(row, number);
        }
        h = 31 * h + by(row, 1000000, 7);
        for (int what = 0; what <= 2; what++) {
            h = 31 * h + lap(row, 5, what);
        }
        return 31 * h + noughts(row);
    }

    private int added(int kind, int a, int b, int c, int d) {
        return ledger.append(kind, a, b, c, d) ? ledger.size() - 1 : FULL;
    }

    // Parts have lower numbers, so a change leaves what is known of lower rows true; a row that is added is not known yet.
    private void changedFrom(int row) {
        terms.forgetFrom(row);
        remainders.forgetFrom(row);
    }

    // What 5, 7, 8 and 9 divide, each of 2 to 10 divides.
    private boolean isOpenAt(int row, int number) {
        return hasRemainderNought(row, number, 7) && hasRemainderNought(row, number, 9)
            && hasRemainderNought(row, number, 8) && hasRemainderNought(row, number, 5);
    }

    private boolean hasRemainderNought(int row, int number, int m) {
        return remainders.cycleOf(ledger, row, m).at(number) == 0;
    }

    // Whether the document tells how the row is eased; the ranges are left to the caller.
    private boolean isEasy(int row) {
        int kind = ledger.kindOf(row);
        if (kind == TOLD || Rule.degreeOf(ledger, row) == 0) {
            return false;
        }
        if (kind == SUM) {
            return numberOfPart(row, ONE, C) == numberOfPart(row, OTHER, C)
                && numberOfPart(row, ONE, D) == numberOfPart(row, OTHER, D);
        }
        return kind != PRODUCT || isPartOfPowers(row, ONE) || isPartOfPowers(row, OTHER);
    }

    private boolean isPartOfPowers(int row, int which) {
        return numberOfPart(row, which, D) == 0
            && numberOfPart(row, which, F) == numberOfPart(row, which, C) * numberOfPart(row, which, E);
    }

    private int numberOfPart(int row, int which, int place) {
        return ledger.numberOf(ledger.numberOf(row, which), place);
    }

    private int toldRows() {
        int found = 0;
        for (int row = 0; row < ledger.size(); row++) {
            if (ledger.isTold(row)) {
                found++;
            }
        }
        return found;
    }

    private int degenerateRows() {
        int found = 0;
        for (int row = 0; row < ledger.size(); row++) {
            if (ledger.isTold(row) && Roots.order(ledger.numberOf(row, C), ledger.numberOf(row, D)) != 0) {
                found++;
            }
        }
        return found;
    }

    private static int nextState(int state) {
        return (int) ((1103515245L * state + 12345L) & 2147483647L);
    }

    private static int numberDrawnAt(int state) {
        return state / 65536 % 7 - 3;
    }

    private static int numbersOf(int kind) {
        switch (kind) {
            case TOLD:
                return 4;
            case EACH:
                return 3;
            case STEP:
                return 1;
            default:
                return 2;
        }
    }

    private static int classAbove(int kind) {
        switch (kind) {
            case SUM:
            case PRODUCT:
                return BOTH;
            case EACH:
            case STEP:
                return OVER;
            default:
                return kind;
        }
    }

    private static boolean isTellable(int c, int d, int e, int f) {
        return isWithin(c, -MOST_FACTOR, MOST_FACTOR) && isWithin(d, -MOST_FACTOR, MOST_FACTOR)
            && isWithin(e, -MOST_START, MOST_START) && isWithin(f, -MOST_START, MOST_START);
    }

    private static boolean isModulus(int m) {
        return isWithin(m, LEAST_MODULUS, MOST_MODULUS);
    }

    private static boolean isPrime(int p) {
        return p == 2 || p == 3 || p == 5 || p == 7;
    }

    private static boolean isWithin(int value, int least, int most) {
        return value >= least && value <= most;
    }

    /** The rows as they are given: of each its kind and up to four numbers, in the order of row(). */
    private static final class Ledger {
        private final int[] kinds = new int[MOST_ROWS];
        private final int[] numbers = new int[MOST_ROWS * NUMBERS_OF_A_ROW];
        private int size;

        int size() {
            return size;
        }

        boolean holds(int row) {
            return row >= 0 && row < size && row < MOST_ROWS;
        }

        boolean isTold(int row) {
            return holds(row) && kinds[row] == TOLD;
        }

        int kindOf(int row) {
            return holds(row) ? kinds[row] : TOLD;
        }

        int numberOf(int row, int place) {
            return holds(row) && isPlace(place) ? numbers[row * NUMBERS_OF_A_ROW + place] : 0;
        }

        void setNumber(int row, int place, int value) {
            if (holds(row) && isPlace(place)) {
                numbers[row * NUMBERS_OF_A_ROW + place] = value;
            }
        }

        boolean append(int kind, int a, int b, int c, int d) {
            if (size >= MOST_ROWS) {
                return false;
            }
            size++;
            write(size - 1, kind, a, b, c, d);
            return true;
        }

        void write(int row, int kind, int a, int b, int c, int d) {
            if (row < 0 || row >= MOST_ROWS) {
                return;
            }
            int start = row * NUMBERS_OF_A_ROW;
            kinds[row] = kind;
            numbers[start] = a;
            numbers[start + 1] = b;
            numbers[start + 2] = c;
            numbers[start + 3] = d;
        }

        void removeLast() {
            if (size > 0) {
                size--;
            }
        }

        void clear() {
            size = 0;
        }

        void copyFrom(Ledger other) {
            System.arraycopy(other.kinds, 0, kinds, 0, MOST_ROWS);
            System.arraycopy(other.numbers, 0, numbers, 0, MOST_ROWS * NUMBERS_OF_A_ROW);
            size = other.size;
        }

        private static boolean isPlace(int place) {
            return place >= 0 && place < NUMBERS_OF_A_ROW;
        }
    }

    /** A list of numbers, at most so many as its room was made for. */
    private static final class Numbers {
        private final int[] values;
        private int size;

        Numbers(int most) {
            values = new int[Math.max(most, 0)];
        }

        int size() {
            return size;
        }

        int at(int place) {
            return place >= 0 && place < size && place < values.length ? values[place] : 0;
        }

        boolean append(int value) {
            if (size < 0 || size >= values.length) {
                return false;
            }
            values[size] = value;
            size++;
            return true;
        }

        void clear() {
            size = 0;
        }

        void copyFrom(Numbers other) {
            clear();
            for (int i = 0; i < other.size(); i++) {
                append(other.at(i));
            }
        }
    }

    /** Reads a page as rows, a character at a time, into a draft, so that a faulty page leaves the rows alone. */
    private static final class Reader {
        private static final int NO_KIND = -1;

        private final Ledger draft = new Ledger();
        private int kind;
        private int taken;

        Ledger draft() {
            return draft;
        }

        boolean isWhole(Numbers page) {
            return faultOf(page) == page.size() && isRowWhole();
        }

        int faultOf(Numbers page) {
            draft.clear();
            taken = 0;
            for (int i = 0; i < page.size(); i++) {
                if (!takes(page.at(i))) {
                    return i;
                }
            }
            return page.size();
        }

        private boolean takes(int code) {
            if (taken == 0) {
                return takesMark(code);
            }
            return isRowWhole() ? takesDivider(code) : takesNumber(code);
        }

        private boolean isRowWhole() {
            return taken == 1 + numbersOf(kind);
        }

        private boolean takesMark(int code) {
            kind = kindMarkedBy(code);
            if (kind == NO_KIND || (kind != TOLD && draft.size() == 0)) {
                return false;
            }
            taken = 1;
            return draft.append(kind, 0, 0, 0, 0);
        }

        private boolean takesDivider(int code) {
            taken = 0;
            return code == ';' && draft.size() < MOST_ROWS;
        }

        private boolean takesNumber(int code) {
            int value = valueOf(code);
            if (!isWithin(value, leastNumber(), mostNumber())) {
                return false;
            }
            draft.setNumber(draft.size() - 1, taken - 1, value);
            taken++;
            return true;
        }

        private int leastNumber() {
            if (kind == TOLD) {
                return -MOST_FACTOR;
            }
            return kind == EACH && taken - 1 == N ? 1 : 0;
        }

        private int mostNumber() {
            if (kind == TOLD || (kind == EACH && taken - 1 == S)) {
                return 9;
            }
            return kind == EACH && taken - 1 == N ? 5 : draft.size() - 2;
        }

        private static int kindMarkedBy(int code) {
            switch (code) {
                case 't':
                    return TOLD;
                case '+':
                    return SUM;
                case '*':
                    return PRODUCT;
                case 'e':
                    return EACH;
                case 'd':
                    return STEP;
                default:
                    return NO_KIND;
            }
        }

        private static int valueOf(int code) {
            if (code >= '0' && code <= '9') {
                return code - '0';
            }
            return code >= 'a' && code <= 'i' ? 'a' - 1 - code : NONE;
        }
    }

    /** The guess that explains given terms. */
    private static final class Explanation {
        private static final int MOST_GUESS = 9;

        private int degree;
        private int u;
        private int v;

        int degree() {
            return degree;
        }

        int u() {
            return u;
        }

        int v() {
            return v;
        }

        boolean isFoundFor(Numbers terms) {
            degree = 0;
            u = 0;
            v = 0;
            return fits(terms) || isFoundByOne(terms) || isFoundByTwo(terms);
        }

        private boolean isFoundByOne(Numbers terms) {
            degree = 1;
            for (int i = -MOST_GUESS; i <= MOST_GUESS; i++) {
                u = i;
                if (fits(terms)) {
                    return true;
                }
            }
            return false;
        }

        private boolean isFoundByTwo(Numbers terms) {
            degree = 2;
            for (int i = -MOST_GUESS; i <= MOST_GUESS; i++) {
                for (int j = -MOST_GUESS; j <= MOST_GUESS; j++) {
                    u = i;
                    v = j;
                    if (fits(terms)) {
                        return true;
                    }
                }
            }
            return false;
        }

        // With a degree below 2, v is 0, and with one below 1, u too: so one equation serves all degrees.
        private boolean fits(Numbers terms) {
            for (int k = degree; k < terms.size(); k++) {
                if (terms.at(k) != u * terms.at(k - 1) + v * terms.at(k - 2)) {
                    return false;
                }
            }
            return true;
        }
    }

    /** The exact terms of all rows, FAR where they are far. */
    private static final class Terms {
        private static final int WIDTH = LAST_TERM + 1;

        private final int[] values = new int[MOST_ROWS * WIDTH];
        private int known;

        void forgetFrom(int row) {
            known = Math.min(known, row);
        }

        int at(Ledger ledger, int row, int number) {
            while (known <= row && known < MOST_ROWS) {
                fill(ledger, known);
                known++;
            }
            return valueAt(row, number);
        }

        private int valueAt(int row, int number) {
            boolean stands = row >= 0 && row < MOST_ROWS && number >= 0 && number <= LAST_TERM;
            return stands ? values[row * WIDTH + number] : FAR;
        }

        private void fill(Ledger ledger, int row) {
            int a = ledger.numberOf(row, 0);
            int b = ledger.numberOf(row, 1);
            int c = ledger.numberOf(row, 2);
            int kind = ledger.kindOf(row);
            int start = row * WIDTH;
            if (start < 0 || start + LAST_TERM >= values.length) {
                return;
            }
            if (kind == TOLD) {
                fillTold(start, a, b, c, ledger.numberOf(row, 3));
                return;
            }
            for (int k = 0; k <= LAST_TERM; k++) {
                values[start + k] = madeAt(kind, a, b, c, k);
            }
        }

        private void fillTold(int start, int c, int d, int e, int f) {
            values[start] = e;
            values[start + 1] = f;
            for (int k = start + 2; k <= start + LAST_TERM; k++) {
                int last = values[k - 1];
                int before = values[k - 2];
                values[k] = exactOrFar(before, last, (long) c * last + (long) d * before);
            }
        }

        private int madeAt(int kind, int a, int b, int c, int k) {
            if (kind == EACH) {
                return valueAt(a, b * k + c);
            }
            int one = valueAt(a, k);
            if (kind == STEP) {
                int next = valueAt(a, k + 1);
                return exactOrFar(one, next, (long) next - one);
            }
            int other = valueAt(b, k);
            return exactOrFar(one, other, kind == SUM ? (long) one + other : (long) one * other);
        }

        // In a told row one far term makes the next one far, and so all that follow, as the document asks.
        private static int exactOrFar(int one, int other, long value) {
            return one == FAR || other == FAR || value > FARTHEST || value < -FARTHEST ? FAR : (int) value;
        }
    }

    /** The remainders of one row modulo one number: a head that is long enough for every row, and then one round. */
    private static final class Cycle {
        // Modulo 2 to 10 every told row repeats from this term on at the latest, so every row made of them does too.
        private static final int LONGEST_HEAD = 6;
        // For 2 to 10: a common multiple of the laps of all told rows, so of all rows (RoundsTest tries each told row).
        private static final int[] ROUNDS = {6, 24, 12, 120, 24, 336, 24, 72, 120};

        private final int modulus;
        private final int round;
        private final int[] values;

        Cycle(int m) {
            modulus = isModulus(m) ? m : LEAST_MODULUS;
            round = ROUNDS[modulus - LEAST_MODULUS];
            values = new int[LONGEST_HEAD + round];
        }

        int at(int number) {
            if (number < 0) {
                return 0;
            }
            return number < LONGEST_HEAD ? values[number] : values[LONGEST_HEAD + (number - LONGEST_HEAD) % round];
        }

        void fillTold(int c, int d, int e, int f) {
            values[0] = Math.floorMod(e, modulus);
            values[1] = Math.floorMod(f, modulus);
            for (int k = 2; k < values.length; k++) {
                values[k] = Math.floorMod(c * values[k - 1] + d * values[k - 2], modulus);
            }
        }

        void fillSum(Cycle one, Cycle other) {
            for (int k = 0; k < values.length; k++) {
                values[k] = (one.at(k) + other.at(k)) % modulus;
            }
        }

        void fillProduct(Cycle one, Cycle other) {
            for (int k = 0; k < values.length; k++) {
                values[k] = one.at(k) * other.at(k) % modulus;
            }
        }

        void fillEach(Cycle part, int n, int s) {
            for (int k = 0; k < values.length; k++) {
                values[k] = part.at(n * k + s);
            }
        }

        void fillStep(Cycle part) {
            for (int k = 0; k < values.length; k++) {
                values[k] = Math.floorMod(part.at(k + 1) - part.at(k), modulus);
            }
        }

        // The lap divides every number after which the remainders repeat, the round among them.
        int shortestLap() {
            for (int lap = 1; lap < round; lap++) {
                if (round % lap == 0 && repeatsAfter(lap)) {
                    return lap;
                }
            }
            return round;
        }

        private boolean repeatsAfter(int lap) {
            for (int k = LONGEST_HEAD; k + lap < values.length; k++) {
                if (values[k] != values[k + lap]) {
                    return false;
                }
            }
            return true;
        }

        int headFor(int lap) {
            int head = LONGEST_HEAD;
            while (head > 0 && at(head - 1) == at(head - 1 + lap)) {
                head--;
            }
            return head;
        }

        int noughtsFrom(int head, int lap) {
            int found = 0;
            for (int k = head; k < head + lap; k++) {
                if (at(k) == 0) {
                    found++;
                }
            }
            return found;
        }

        int firstMeeting(Cycle other) {
            for (int k = 0; k < values.length; k++) {
                if (values[k] == other.at(k)) {
                    return k;
                }
            }
            return NONE;
        }
    }

    /** The cycles of all rows modulo 2 to 10. */
    private static final class Remainders {
        private final Cycle[] cycles = new Cycle[MODULI * MOST_ROWS];
        private final int[] known = new int[MODULI];

        Remainders() {
            for (int i = 0; i < MODULI; i++) {
                for (int row = 0; row < MOST_ROWS; row++) {
                    cycles[i * MOST_ROWS + row] = new Cycle(LEAST_MODULUS + i);
                }
            }
        }

        void forgetFrom(int row) {
            for (int i = 0; i < MODULI; i++) {
                known[i] = Math.min(known[i], row);
            }
        }

        Cycle cycleOf(Ledger ledger, int row, int m) {
            int i = m >= LEAST_MODULUS && m <= MOST_MODULUS ? m - LEAST_MODULUS : 0;
            while (known[i] <= row && known[i] < MOST_ROWS) {
                fill(ledger, known[i], i);
                known[i]++;
            }
            return filled(row, i);
        }

        private Cycle filled(int row, int i) {
            boolean stands = row >= 0 && row < MOST_ROWS && i >= 0 && i < MODULI;
            return cycles[stands ? i * MOST_ROWS + row : 0];
        }

        private void fill(Ledger ledger, int row, int i) {
            Cycle cycle = filled(row, i);
            int a = ledger.numberOf(row, 0);
            int b = ledger.numberOf(row, 1);
            int c = ledger.numberOf(row, 2);
            switch (ledger.kindOf(row)) {
                case TOLD:
                    cycle.fillTold(a, b, c, ledger.numberOf(row, 3));
                    break;
                case SUM:
                    cycle.fillSum(filled(a, i), filled(b, i));
                    break;
                case PRODUCT:
                    cycle.fillProduct(filled(a, i), filled(b, i));
                    break;
                case EACH:
                    cycle.fillEach(filled(a, i), b, c);
                    break;
                default:
                    cycle.fillStep(filled(a, i));
                    break;
            }
        }
    }

    /** The linear complexity of a row modulo a prime, by the way of Berlekamp and Massey. */
    private static final class Complexity {
        private static final int MOST_UNIQUE = 8, TERMS = 16, WIDTH = TERMS + 1;

        private final int[] connection = new int[WIDTH];
        private final int[] former = new int[WIDTH];
        private final int[] spare = new int[WIDTH];
        private int prime = 2;
        private int length;

        int length() {
            return length;
        }

        int factor(int i) {
            return i >= 1 && i <= length && i < WIDTH ? Math.floorMod(-connection[i], prime) : 0;
        }

        void examine(Cycle row, int p) {
            begin(p);
            int gap = 1;
            int formerMiss = 1;
            for (int n = 0; n < TERMS; n++) {
                int miss = missAt(row, n);
                if (miss == 0) {
                    gap++;
                } else if (2 * length <= n) {
                    System.arraycopy(connection, 0, spare, 0, WIDTH);
                    mend(miss * inverse(formerMiss), gap);
                    System.arraycopy(spare, 0, former, 0, WIDTH);
                    length = n + 1 - length;
                    formerMiss = miss;
                    gap = 1;
                } else {
                    mend(miss * inverse(formerMiss), gap);
                    gap++;
                }
            }
        }

        private void begin(int p) {
            prime = isPrime(p) ? p : 2;
            length = 0;
            for (int i = 0; i < WIDTH; i++) {
                connection[i] = i == 0 ? 1 : 0;
                former[i] = connection[i];
            }
        }

        private int missAt(Cycle row, int n) {
            int miss = 0;
            for (int i = 0; i <= length && i <= n && i < WIDTH; i++) {
                miss += connection[i] * row.at(n - i);
            }
            return miss % prime;
        }

        private void mend(int factor, int gap) {
            for (int i = 0; i + gap < WIDTH; i++) {
                connection[i + gap] = Math.floorMod(connection[i + gap] - factor * former[i], prime);
            }
        }

        private int inverse(int value) {
            for (int i = 1; i < prime; i++) {
                if (i * value % prime == 1) {
                    return i;
                }
            }
            return 0;
        }
    }

    /** The rules of rows; a degree of 0 stands for none. */
    private static final class Rule {
        static int degreeOf(Ledger ledger, int row) {
            int kind = ledger.kindOf(row);
            if (kind == TOLD) {
                return 2;
            }
            if (!ledger.isTold(ledger.numberOf(row, ONE))) {
                return 0;
            }
            if (kind == EACH || kind == STEP) {
                return 2;
            }
            return ledger.isTold(ledger.numberOf(row, OTHER)) ? 4 : 0;
        }

        static int factorOf(Ledger ledger, int row, int which) {
            int kind = ledger.kindOf(row);
            int one = kind == TOLD ? row : ledger.numberOf(row, ONE);
            int c = ledger.numberOf(one, C);
            int d = ledger.numberOf(one, D);
            if (kind == TOLD || kind == STEP) {
                return ofTwo(which, c, d);
            }
            if (kind == EACH) {
                return ofPowers(which, ledger.numberOf(row, N), c, d);
            }
            int other = ledger.numberOf(row, OTHER);
            int otherC = ledger.numberOf(other, C);
            int otherD = ledger.numberOf(other, D);
            return kind == SUM ? ofSum(which, c, d, otherC, otherD) : ofProduct(which, c, d, otherC, otherD);
        }

        private static int ofTwo(int which, int c, int d) {
            if (which == 1) {
                return c;
            }
            return which == 2 ? d : 0;
        }

        // The sums of the n-th powers of both roots follow the row's own rule; the product of the roots is -d.
        private static int ofPowers(int which, int n, int c, int d) {
            int before = 2;
            int sum = c;
            int product = -d;
            for (int i = 1; i < n; i++) {
                int next = c * sum + d * before;
                before = sum;
                sum = next;
                product = product * -d;
            }
            return ofTwo(which, sum, -product);
        }

        private static int ofSum(int which, int c1, int d1, int c2, int d2) {
            switch (which) {
                case 1:
                    return c1 + c2;
                case 2:
                    return d1 + d2 - c1 * c2;
                case 3:
                    return -(c1 * d2 + c2 * d1);
                case 4:
                    return -(d1 * d2);
                default:
                    return 0;
            }
        }

        private static int ofProduct(int which, int c1, int d1, int c2, int d2) {
            switch (which) {
                case 1:
                    return c1 * c2;
                case 2:
                    return c1 * c1 * d2 + c2 * c2 * d1 + 2 * d1 * d2;
                case 3:
                    return c1 * c2 * d1 * d2;
                case 4:
                    return -(d1 * d1 * d2 * d2);
                default:
                    return 0;
            }
        }
    }

    /** The roots of x * x = c * x + d. */
    private static final class Roots {
        // The root of the greatest discriminant, 9 * 9 + 4 * 9, lies below this.
        private static final int MOST_ROOT = 11;

        static int differentReal(int c, int d) {
            return 1 + signOf(discriminant(c, d));
        }

        static int greater(int c, int d) {
            int root = wholeRootOf(discriminant(c, d));
            return root == NONE ? NONE : (c + root) / 2;
        }

        static int lesser(int c, int d) {
            int root = wholeRootOf(discriminant(c, d));
            return root == NONE ? NONE : (c - root) / 2;
        }

        // The quotient q of the roots is a root of unity only if q + 1/q = -(c * c + 2 * d) / d is -2, -1, 0 or 1.
        static int order(int c, int d) {
            if (d == 0) {
                return 0;
            }
            if (c == 0) {
                return 2;
            }
            if (c * c == -d) {
                return 3;
            }
            if (c * c == -2 * d) {
                return 4;
            }
            return c * c == -3 * d ? 6 : 0;
        }

        // Real roots are equally far from 0 only if they are equal or opposite, complex ones always.
        static int farthestSign(int c, int d) {
            return discriminant(c, d) > 0 ? signOf(c) : 0;
        }

        private static int signOf(int value) {
            if (value == 0) {
                return 0;
            }
            return value > 0 ? 1 : -1;
        }

        private static int discriminant(int c, int d) {
            return c * c + 4 * d;
        }

        private static int wholeRootOf(int square) {
            for (int root = 0; root < MOST_ROOT; root++) {
                if (root * root == square) {
                    return root;
                }
            }
            return NONE;
        }
    }
}
