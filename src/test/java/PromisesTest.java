/** Each promise by itself: ordinary inputs, the edges that the document names, wrong inputs, and the order of errors. */
final class PromisesTest {
    private static final int NONE = Due.NONE, FAR = Due.FAR, UNKNOWN = Due.UNKNOWN;
    private static final int OUTSIDE = Due.OUTSIDE, STATE = Due.STATE, FULL = Due.FULL;
    private static final int LOW = Integer.MIN_VALUE, HIGH = Integer.MAX_VALUE;
    private static final String EIGHT = "t1101;t2036;+01;*01;e023;d0;e112;*22";
    private static final Due DUE = new Due("PromisesTest");

    public static void main(String[] args) {
        texts();
        rowsAndTerms();
        remainders();
        rulesAndRoots();
        noughts();
        done();
        given();
        ofAll();
        DUE.end();
    }

    private static void texts() {
        p1New();
        p2Letter();
        p3Blank();
        p4Fault();
        p5Rows();
    }

    private static void rowsAndTerms() {
        p6Row();
        p7As();
        p8Term();
        p8TermFar();
    }

    private static void remainders() {
        p9By();
        p10Lap();
        p11Least();
    }

    private static void rulesAndRoots() {
        p12Rule();
        p13Roots();
        p13Orders();
    }

    private static void noughts() {
        p14Noughts();
        p15Ends();
        p16Open();
        p17Meets();
    }

    private static void done() {
        p18Told();
        p19And20();
        p21Each();
        p22Step();
        p23Put();
        p24Drop();
        p25Ease();
        p25EaseRefused();
        p25EaseProduct();
    }

    private static void given() {
        p26Give();
        p27Forget();
        p28Guess();
        p29Found();
        p30Drawn();
    }

    private static void ofAll() {
        p31And32();
        p32AfterRows();
        p33Count();
        p34Digest();
        errorsChangeNothing();
    }

    private static void p1New() {
        AheadRows x = new AheadRows();
        for (int what = 0; what <= 5; what++) DUE.is("new: count(" + what + ")", x.count(what), 0);
        DUE.is("new: row(0, 0)", x.row(0, 0), UNKNOWN);
        DUE.is("new: fault()", x.fault(), 0);
        DUE.is("new: guess(0)", x.guess(0), 0);
        DUE.is("new: restore()", x.restore(), STATE);
        DUE.is("new: digest()", x.digest(), digestOfNothing());
    }

    /** h after three guesses and six totals, all of them 0. */
    private static long digestOfNothing() {
        long h = 1493;
        for (int i = 0; i < 9; i++) h *= 31;
        return h;
    }

    private static void p2Letter() {
        AheadRows x = new AheadRows();
        DUE.is("letter(31)", x.letter(31), OUTSIDE);
        DUE.is("letter(127)", x.letter(127), OUTSIDE);
        DUE.is("letter(LOW)", x.letter(LOW), OUTSIDE);
        DUE.is("letter(HIGH)", x.letter(HIGH), OUTSIDE);
        DUE.is("letter(32)", x.letter(32), 1);
        DUE.is("letter(126)", x.letter(126), 2);
        for (int i = 3; i <= 47; i++) DUE.is("letter, the " + i + "th", x.letter(48), i);
        DUE.is("letter, the 48th", x.letter(48), FULL);
        DUE.is("letter(127) on a full page", x.letter(127), OUTSIDE);
        DUE.is("count(4) of a full page", x.count(4), 47);
    }

    private static void p3Blank() {
        AheadRows x = new AheadRows();
        DUE.is("blank() of an empty page", x.blank(), 0);
        Due.type(x, "t01");
        DUE.is("blank()", x.blank(), 3);
        DUE.is("blank() again", x.blank(), 0);
        DUE.is("letter after blank()", x.letter('t'), 1);
        DUE.is("fault after blank()", x.fault(), 1);
    }

    private static void faultIs(String text, int want) {
        AheadRows x = new AheadRows();
        Due.type(x, text);
        DUE.is("fault of \"" + text + "\"", x.fault(), want);
        DUE.is("length of \"" + text + "\" after fault()", x.count(4), text.length());
    }

    private static void p4Fault() {
        faultIs("", 0);
        faultIs("t", 1);
        faultIs("t09a", 4);
        faultIs("t09ai", 5);
        faultIs("t09aj", 4);
        faultIs("tA", 1);
        faultIs("T", 0);
        faultIs(";", 0);
        faultIs(" t0000", 0);
        faultIs("t0000 ", 5);
        faultIs("t0000;", 6);
        faultIs("t00000", 5);
        faultIs("t0000;;", 6);
        faultIs("+00", 0);
        faultIs("d0", 0);
        faultIs("e010", 0);
        faultIs("t0000;+00", 9);
        faultIs("t0000;+01", 8);
        faultIs("t0000;*1", 7);
        faultIs("t0000;*0a", 8);
        faultIs("t0000;e010", 10);
        faultIs("t0000;e000", 8);
        faultIs("t0000;e060", 8);
        faultIs("t0000;e05a", 9);
        faultIs("t0000;e0599", 10);
        faultIs("t0000;d1", 7);
        faultIs("t0000;d0;d1;d2;+33", 18);
        faultIs("t0000;d0;d1;d3", 13);
        faultIs("t0000;d0;d0;d0;d0;d0;d0;d6", 26);
        faultIs("t0000;d0;d0;d0;d0;d0;d0;d0;", 26);
        faultIs("t0000;t0000;t0000;t0000;t0000;t0000;t0000;t0000", 47);
    }

    private static void rowsIs(String text, int want) {
        AheadRows x = new AheadRows();
        Due.type(x, text);
        DUE.is("rows of \"" + text + "\"", x.rows(), want);
        DUE.is("page after rows of \"" + text + "\"", x.count(4), want == STATE ? text.length() : 0);
        DUE.is("count(5) after rows of \"" + text + "\"", x.count(5), want == STATE ? 0 : 1);
    }

    private static void p5Rows() {
        rowsIs("", STATE);
        rowsIs("t000", STATE);
        rowsIs("t0000;", STATE);
        rowsIs("t0000;x", STATE);
        rowsIs("t0000;e01", STATE);
        rowsIs("t0000", 1);
        rowsIs("t0000;t0000;t0000;t0000;t0000;t0000;t0000;t0000", 8);
        rowsIs("t0000;d0;d0;d0;d0;d0;d0;d0;d0", STATE);
        AheadRows x = Due.of("t9ia1;e059;*01;+21;d3");
        int[][] want = {{0, 9, -9, -1, 1}, {3, 0, 5, 9, NONE}, {2, 0, 1, NONE, NONE}, {1, 2, 1, NONE, NONE}, {4, 3, NONE, NONE, NONE}};
        for (int row = 0; row < want.length; row++) {
            for (int what = 0; what <= 4; what++) DUE.is("read row(" + row + ", " + what + ")", x.row(row, what), want[row][what]);
        }
        x.give(7);
        DUE.is("term of the old row", x.term(0, 1), 1);
        DUE.is("remainder of the old row", x.by(0, 1, 10), 1);
        Due.type(x, "t0012");
        DUE.is("rows() in place of others", x.rows(), 1);
        DUE.is("what was row 1", x.row(1, 0), UNKNOWN);
        DUE.is("given terms after rows()", x.count(3), 1);
        DUE.is("term of the new row", x.term(0, 1), 2);
        DUE.is("remainder of the new row", x.by(0, 1, 10), 2);
        Due.type(x, "d0");
        DUE.is("rows() on a faulty page", x.rows(), STATE);
        DUE.is("rows after that", x.count(0), 1);
    }

    private static void p6Row() {
        AheadRows x = new AheadRows();
        DUE.is("row without rows", x.row(0, 9), UNKNOWN);
        x.told(-9, 9, -999, 999);
        x.sum(0, 0);
        x.product(1, 0);
        x.each(2, 5, 9);
        x.step(3);
        int[][] want = {{0, -9, 9, -999, 999}, {1, 0, 0, NONE, NONE}, {2, 1, 0, NONE, NONE}, {3, 2, 5, 9, NONE}, {4, 3, NONE, NONE, NONE}};
        for (int row = 0; row < want.length; row++) {
            for (int what = 0; what <= 4; what++) DUE.is("row(" + row + ", " + what + ")", x.row(row, what), want[row][what]);
        }
        DUE.is("row(5, 0)", x.row(5, 0), UNKNOWN);
        DUE.is("row(-1, 0)", x.row(-1, 0), UNKNOWN);
        DUE.is("row(LOW, LOW)", x.row(LOW, LOW), UNKNOWN);
        DUE.is("row(HIGH, 0)", x.row(HIGH, 0), UNKNOWN);
        DUE.is("row(0, -1)", x.row(0, -1), OUTSIDE);
        DUE.is("row(0, 5)", x.row(0, 5), OUTSIDE);
        DUE.is("row(4, HIGH)", x.row(4, HIGH), OUTSIDE);
    }

    private static void p7As() {
        AheadRows x = Due.of("t1101;+00;*00;e020;d0");
        for (int kind = 0; kind <= 4; kind++) {
            for (int as = 0; as <= 6; as++) {
                boolean fits = kind == as || (as == 5 && (kind == 1 || kind == 2)) || (as == 6 && kind >= 3);
                DUE.is("as(" + kind + ", " + as + ")", x.as(kind, as), fits ? kind : NONE);
            }
        }
        DUE.is("as(0, 7)", x.as(0, 7), OUTSIDE);
        DUE.is("as(0, -1)", x.as(0, -1), OUTSIDE);
        DUE.is("as(5, 7)", x.as(5, 7), UNKNOWN);
        DUE.is("as(-1, 0)", x.as(-1, 0), UNKNOWN);
    }

    private static void p8Term() {
        AheadRows x = Due.of(EIGHT);
        int[][] want = {
            {0, 1, 1, 2, 3, 5}, {3, 6, 12, 24, 48, 96}, {3, 7, 13, 26, 51, 101}, {0, 6, 12, 48, 144, 480},
            {2, 5, 13, 34, 89, 233}, {1, 0, 1, 1, 2, 3}, {12, 24, 48, 96, 192, 384}, {9, 49, 169, 676, 2601, 10201}};
        for (int row = 0; row < want.length; row++) {
            for (int k = 0; k < 6; k++) DUE.is("term(" + row + ", " + k + ")", x.term(row, k), want[row][k]);
        }
        DUE.is("term(8, 0)", x.term(8, 0), UNKNOWN);
        DUE.is("term(-1, 999)", x.term(-1, 999), UNKNOWN);
        DUE.is("term(0, -1)", x.term(0, -1), OUTSIDE);
        DUE.is("term(0, 201)", x.term(0, 201), OUTSIDE);
        DUE.is("term(0, HIGH)", x.term(0, HIGH), OUTSIDE);
        DUE.is("term(0, LOW)", x.term(0, LOW), OUTSIDE);
    }

    private static void p8TermFar() {
        AheadRows x = new AheadRows();
        x.told(1, 0, 1, 1);
        x.step(0);
        x.each(0, 1, 1);
        x.each(0, 5, 9);
        DUE.is("term(0, 200)", x.term(0, 200), 1);
        DUE.is("a step's term 199", x.term(1, 199), 0);
        DUE.is("a step's term 200, made of a far one", x.term(1, 200), FAR);
        DUE.is("an each's term of number 200", x.term(2, 199), 1);
        DUE.is("an each's term of number 201", x.term(2, 200), FAR);
        DUE.is("an each's term of number 199", x.term(3, 38), 1);
        DUE.is("an each's term of number 204", x.term(3, 39), FAR);
        // 9 zeros: powers of 10 as 5 * 2; 1000000000 itself is not far.
        x = new AheadRows();
        x.told(5, 0, 64, 320);
        x.told(2, 0, 1, 2);
        x.product(0, 1);
        x.told(-1, 0, 1, -1);
        x.product(2, 3);
        DUE.is("64 * 10^7", x.term(2, 7), 640000000);
        DUE.is("64 * 10^8", x.term(2, 8), FAR);
        x.put(0, 2, 1);
        x.put(0, 3, 5);
        DUE.is("10^9", x.term(2, 9), 1000000000);
        DUE.is("-10^9", x.term(4, 9), -1000000000);
        DUE.is("10^10", x.term(2, 10), FAR);
        x.told(1, 0, 1, 1);
        x.sum(2, 5);
        x.sum(4, 3);
        DUE.is("10^9 + 1", x.term(6, 9), FAR);
        DUE.is("-10^9 - 1", x.term(7, 9), FAR);
        // A told row of a far term and then small ones: 0 again and again between growing terms.
        x = new AheadRows();
        x.told(0, 9, 1, 0);
        x.told(0, 0, 0, 0);
        x.product(0, 1);
        x.sum(0, 1);
        DUE.is("9^9", x.term(0, 18), 387420489);
        DUE.is("the 0 behind it", x.term(0, 19), 0);
        DUE.is("9^10", x.term(0, 20), FAR);
        DUE.is("a 0 behind a far term", x.term(0, 21), FAR);
        DUE.is("0 times a far term", x.term(2, 20), FAR);
        DUE.is("a far term and 0", x.term(3, 21), FAR);
        // The sum of two near terms may be far, and is not carried on: a sum has no memory.
        x = new AheadRows();
        x.told(0, 1, 999, 1);
        x.told(-1, 0, 1, -1);
        x.product(0, 0);
        x.product(2, 0);
        x.sum(3, 3);
        DUE.is("999^3", x.term(3, 0), 997002999);
        DUE.is("2 * 999^3", x.term(4, 0), FAR);
        DUE.is("2 * 1^3 behind it", x.term(4, 1), 2);
    }

    private static void p9By() {
        AheadRows x = Due.of(EIGHT);
        DUE.is("by(0, 0, 2)", x.by(0, 0, 2), 0);
        DUE.is("by(0, 10, 10)", x.by(0, 10, 10), 5);
        DUE.is("by(0, 100, 10)", x.by(0, 100, 10), 5);
        DUE.is("by(0, 1000000, 7)", x.by(0, 1000000, 7), 0);
        DUE.is("by(1, HIGH, 7)", x.by(1, HIGH, 7), 6);
        DUE.is("by(5, 60, 10)", x.by(5, 60, 10), 1);
        DUE.is("by(-1, -1, 1)", x.by(-1, -1, 1), UNKNOWN);
        DUE.is("by(8, 0, 2)", x.by(8, 0, 2), UNKNOWN);
        DUE.is("by(0, -1, 2)", x.by(0, -1, 2), OUTSIDE);
        DUE.is("by(0, LOW, 2)", x.by(0, LOW, 2), OUTSIDE);
        DUE.is("by(0, 0, 1)", x.by(0, 0, 1), OUTSIDE);
        DUE.is("by(0, 0, 11)", x.by(0, 0, 11), OUTSIDE);
        DUE.is("by(0, 0, 0)", x.by(0, 0, 0), OUTSIDE);
        x = new AheadRows();
        x.told(0, 0, -7, -1);
        DUE.is("the remainder of -7 modulo 10", x.by(0, 0, 10), 3);
        DUE.is("the remainder of -1 modulo 2", x.by(0, 1, 2), 1);
        // Seven eaches of 5: the term's number leaves the ints, the remainder stays true.
        x = new AheadRows();
        x.told(2, 0, 1, 2);
        for (int i = 0; i < 7; i++) x.each(i, 5, 9);
        long number = HIGH;
        for (int i = 0; i < 7; i++) number = 5 * number + 9;
        DUE.is("a power of 2 far out", x.by(7, HIGH, 7), new int[] {1, 2, 4}[(int) (number % 3)]);
    }

    private static void lapIs(AheadRows x, String name, int row, int m, int... want) {
        for (int what = 0; what < 3; what++) DUE.is("lap(" + row + ", " + m + ", " + what + ") of " + name, x.lap(row, m, what), want[what]);
    }

    private static void p10Lap() {
        AheadRows x = new AheadRows();
        x.told(1, 1, 0, 1);
        int[] fibonacci = {3, 8, 6, 20, 24, 16, 12, 24, 60};
        for (int m = 2; m <= 10; m++) {
            DUE.is("Pisano(" + m + ")", x.lap(0, m, 0), fibonacci[m - 2]);
            DUE.is("its head", x.lap(0, m, 1), 0);
        }
        lapIs(x, "Fibonacci", 0, 10, 60, 0, 4);
        x.told(0, 0, 1, 2);
        lapIs(x, "1, 2, 0, 0, ...", 1, 5, 1, 2, 1);
        x.told(2, 0, 1, 2);
        lapIs(x, "powers of 2", 2, 8, 1, 3, 1);
        lapIs(x, "powers of 2", 2, 10, 4, 1, 0);
        lapIs(x, "powers of 2", 2, 6, 2, 1, 0);
        x.told(1, 0, 5, 5);
        lapIs(x, "5, 5, ...", 3, 5, 1, 0, 1);
        lapIs(x, "5, 5, ...", 3, 4, 1, 0, 0);
        x.told(0, 2, 1, 1);
        lapIs(x, "1, 1, 2, 2, 4, 4, ...", 4, 8, 1, 6, 1);
        x.sum(0, 4);
        lapIs(x, "Fibonacci with a head", 5, 8, 12, 6, 2);
        x.told(2, -1, 0, 1);
        lapIs(x, "0, 1, 2, ...", 6, 7, 7, 0, 1);
        x.product(6, 0);
        lapIs(x, "k * Fibonacci", 7, 7, 112, 0, 28);
        DUE.is("lap(8, 1, 3)", x.lap(8, 1, 3), UNKNOWN);
        DUE.is("lap(-1, 2, 0)", x.lap(-1, 2, 0), UNKNOWN);
        DUE.is("lap(0, 1, 0)", x.lap(0, 1, 0), OUTSIDE);
        DUE.is("lap(0, 11, 0)", x.lap(0, 11, 0), OUTSIDE);
        DUE.is("lap(0, 2, 3)", x.lap(0, 2, 3), OUTSIDE);
        DUE.is("lap(0, 2, -1)", x.lap(0, 2, -1), OUTSIDE);
    }

    private static void leastIs(AheadRows x, String name, int row, int p, int... want) {
        for (int what = 0; what <= 8; what++) {
            DUE.is("least(" + row + ", " + p + ", " + what + ") of " + name, x.least(row, p, what), what < want.length ? want[what] : 0);
        }
    }

    private static void p11Least() {
        AheadRows x = Due.of("t1101;t0000;t3013;t0001;t0010;t2a01;*50;*56");
        leastIs(x, "Fibonacci", 0, 7, 2, 1, 1);
        leastIs(x, "zeros", 1, 2, 0);
        leastIs(x, "powers of 3", 2, 7, 1, 3);
        leastIs(x, "powers of 3", 2, 3, 1, 0);
        leastIs(x, "powers of 3", 2, 2, 1, 1);
        leastIs(x, "0, 1, 0, 0, ...", 3, 5, 2, 0, 0);
        leastIs(x, "1, 0, 0, ...", 4, 5, 1, 0);
        leastIs(x, "k", 5, 7, 2, 2, 6);
        leastIs(x, "k * Fibonacci", 6, 7, 4, 2, 1, 5, 6);
        leastIs(x, "k * k * Fibonacci", 7, 7, 6, 3, 0, 2, 0, 3, 1);
        // Products of products: more than 8 numbers, of which none is told then.
        DUE.is("L of 16", Due.of("t3332;tabbc;*11;*20;+30;+12;*34;*54").least(7, 5, 0), 16);
        DUE.is("L of 15", Due.of("t1120;taa13;+01;+01;+10;*34;*55;+24").least(6, 5, 0), 15);
        // The term 16, which is not asked for, would make it 9.
        leastIs(Due.of("t2aa0;ta01b;tbb23;*20;*33;+40"), "a row with L 8", 5, 3, 8, 1, 2, 2, 1, 2, 0, 1, 2);
        DUE.is("L of 9", Due.of("t5144;t6422;t2526;*01;*23;+40").least(5, 7, 0), 9);
        x = Due.of("t0506;t4436;t2444;*01;*23;+40");
        DUE.is("L above 8", x.least(5, 7, 0), 10);
        for (int what = 1; what <= 8; what++) DUE.is("a number of it", x.least(5, 7, what), NONE);
        DUE.is("L above 8, and what 9", x.least(5, 7, 9), OUTSIDE);
        DUE.is("least(6, 4, 9)", x.least(6, 4, 9), UNKNOWN);
        for (int p : new int[] {LOW, -2, 0, 1, 4, 6, 8, 9, 10, 11, HIGH}) DUE.is("least(0, " + p + ", 0)", x.least(0, p, 0), OUTSIDE);
        DUE.is("least(0, 2, -1)", x.least(0, 2, -1), OUTSIDE);
    }

    private static void ruleIs(AheadRows x, int row, int... want) {
        for (int what = 0; what <= 4; what++) DUE.is("rule(" + row + ", " + what + ")", x.rule(row, what), what < want.length ? want[what] : 0);
    }

    private static void p12Rule() {
        AheadRows x = new AheadRows();
        x.told(5, -6, 1, 1);
        x.told(2, 3, 1, 1);
        x.step(0);
        x.each(0, 3, 4);
        x.sum(0, 1);
        x.product(0, 1);
        x.sum(1, 1);
        x.step(2);
        ruleIs(x, 0, 2, 5, -6);
        ruleIs(x, 2, 2, 5, -6);
        // roots 2, 3, cubed: 8, 27
        ruleIs(x, 3, 2, 35, -216);
        // roots 2, 3 and 3, -1: (x^2 - 5x + 6)(x^2 - 2x - 3)
        ruleIs(x, 4, 4, 7, -13, -3, 18);
        // roots 6, -2, 9, -3: (x^2 - 4x - 12)(x^2 - 6x - 27)
        ruleIs(x, 5, 4, 10, 15, -180, -324);
        // roots 3, -1, 3, -1
        ruleIs(x, 6, 4, 4, 2, -12, -9);
        for (int what = 0; what <= 4; what++) DUE.is("a step of a step", x.rule(7, what), STATE);
        DUE.is("rule(7, 5)", x.rule(7, 5), OUTSIDE);
        DUE.is("rule(7, -1)", x.rule(7, -1), OUTSIDE);
        DUE.is("rule(8, 5)", x.rule(8, 5), UNKNOWN);
        x.ease(2);
        ruleIs(x, 7, 2, 5, -6);
        x.drop();
        x.sum(3, 0);
        DUE.is("a sum of an each and a told row", x.rule(7, 0), STATE);
        x.drop();
        x.product(0, 3);
        DUE.is("a product of a told row and an each", x.rule(7, 0), STATE);
        x.drop();
        x.each(3, 1, 0);
        DUE.is("an each of an each", x.rule(7, 0), STATE);
        x = new AheadRows();
        x.told(9, 9, 0, 0);
        x.each(0, 5, 0);
        x.each(0, 1, 9);
        x.each(0, 2, 0);
        ruleIs(x, 1, 2, 95499, 59049);
        ruleIs(x, 2, 2, 9, 9);
        ruleIs(x, 3, 2, 99, -81);
    }

    private static void rootsAre(int c, int d, int... want) {
        AheadRows x = new AheadRows();
        x.told(c, d, 0, 0);
        for (int what = 0; what <= 4; what++) DUE.is("roots(0, " + what + ") for C " + c + ", D " + d, x.roots(0, what), want[what]);
    }

    private static void p13Roots() {
        rootsAre(1, 1, 2, NONE, NONE, 0, 1);
        rootsAre(-1, 1, 2, NONE, NONE, 0, -1);
        rootsAre(5, -6, 2, 3, 2, 0, 1);
        rootsAre(-5, -6, 2, -2, -3, 0, -1);
        rootsAre(1, 6, 2, 3, -2, 0, 1);
        rootsAre(-1, 6, 2, 2, -3, 0, -1);
        rootsAre(8, 9, 2, 9, -1, 0, 1);
        rootsAre(-8, 9, 2, 1, -9, 0, -1);
        rootsAre(0, 4, 2, 2, -2, 2, 0);
        rootsAre(0, 2, 2, NONE, NONE, 2, 0);
        rootsAre(0, -4, 0, NONE, NONE, 2, 0);
        rootsAre(0, 0, 1, 0, 0, 0, 0);
        rootsAre(7, 0, 2, 7, 0, 0, 1);
        rootsAre(-9, 0, 2, 0, -9, 0, -1);
        rootsAre(6, -9, 1, 3, 3, 0, 0);
        rootsAre(-2, -1, 1, -1, -1, 0, 0);
        rootsAre(9, 9, 2, NONE, NONE, 0, 1);
        rootsAre(1, -1, 0, NONE, NONE, 3, 0);
        rootsAre(-2, -2, 0, NONE, NONE, 4, 0);
        rootsAre(3, -3, 0, NONE, NONE, 6, 0);
        rootsAre(2, -5, 0, NONE, NONE, 0, 0);
        AheadRows x = Due.of("t1101;d0");
        DUE.is("roots(1, 0)", x.roots(1, 0), STATE);
        DUE.is("roots(1, 5)", x.roots(1, 5), OUTSIDE);
        DUE.is("roots(0, -1)", x.roots(0, -1), OUTSIDE);
        DUE.is("roots(2, 5)", x.roots(2, 5), UNKNOWN);
        DUE.is("roots(-1, 0)", x.roots(-1, 0), UNKNOWN);
    }

    private static void p13Orders() {
        AheadRows x = new AheadRows();
        x.told(0, 0, 0, 0);
        for (int c = -9; c <= 9; c++) {
            for (int d = -9; d <= 9; d++) {
                x.put(0, 0, c);
                x.put(0, 1, d);
                int order = Model.order(c, d);
                DUE.is("order for C " + c + ", D " + d, x.roots(0, 3), order);
                DUE.is("count(2) for C " + c + ", D " + d, x.count(2), order == 0 ? 0 : 1);
            }
        }
    }

    private static void p14Noughts() {
        AheadRows x = new AheadRows();
        DUE.is("noughts without rows", x.noughts(0), UNKNOWN);
        x.told(0, 0, 0, 0);
        x.told(0, 9, 0, 1);
        x.told(1, 1, 1, 1);
        x.told(2, -1, -23, -22);
        x.told(2, -1, -24, -23);
        DUE.is("noughts of zeros", x.noughts(0), 0xFFFFFF);
        // 0, 1, 0, 9, ...: 9^10 is term 21 and far, and so are the zeros behind it.
        DUE.is("noughts up to a far term", x.noughts(1), 0x155555);
        DUE.is("noughts of none", x.noughts(2), 0);
        DUE.is("nought at 23", x.noughts(3), 1 << 23);
        DUE.is("nought at 24", x.noughts(4), 0);
        DUE.is("noughts(5)", x.noughts(5), UNKNOWN);
        DUE.is("noughts(-1)", x.noughts(-1), UNKNOWN);
    }

    private static void p15Ends() {
        AheadRows x = new AheadRows();
        DUE.is("ends without rows", x.ends(0), UNKNOWN);
        x.told(1, 0, 1, 1);
        DUE.is("ends of ones", x.ends(0), 2);
        x.told(1, 0, 4, 4);
        DUE.is("ends of fours", x.ends(1), 3);
        x.told(1, 0, 360, 360);
        DUE.is("ends of 360", x.ends(2), 7);
        x.told(1, 0, 420, 420);
        DUE.is("ends of 420", x.ends(3), 8);
        x.told(1, 0, 840, 840);
        DUE.is("ends of 840", x.ends(4), 9);
        x.told(1, 0, 504, 504);
        DUE.is("ends of 504", x.ends(5), 5);
        x.told(1, 0, 0, 1);
        DUE.is("a nought in the head is not seen", x.ends(6), 2);
        x.product(4, 2);
        DUE.is("ends of 840 * 360", x.ends(7), NONE);
        DUE.is("ends(8)", x.ends(8), UNKNOWN);
        x = new AheadRows();
        x.told(0, 1, 504, 5);
        DUE.is("ends of 504, 5, 504, 5, ...", x.ends(0), 10);
    }

    private static void p16Open() {
        AheadRows x = new AheadRows();
        DUE.is("open without rows", x.open(0, 2), UNKNOWN);
        x.told(2, -1, 0, 1);
        DUE.is("open of k", x.open(0, 0), 1);
        DUE.is("open of k", x.open(0, 1), 0);
        x.told(2, -1, -999, -998);
        DUE.is("open of k - 999", x.open(1, 0), 1);
        DUE.is("open of k - 999", x.open(1, 1), 999);
        x.told(1, 0, 1, 1);
        DUE.is("open of ones", x.open(2, 0), 0);
        DUE.is("open of ones", x.open(2, 1), NONE);
        x.told(1, 0, 840, 840);
        DUE.is("open of 840, where 9 is missing", x.open(3, 0), 0);
        x.told(1, 0, 3, 3);
        x.product(3, 4);
        DUE.is("open of 2520", x.open(5, 0), 1000);
        x.product(3, 0);
        DUE.is("open of 840 * k", x.open(6, 0), 334);
        DUE.is("open of 840 * k", x.open(6, 1), 999);
        x.each(6, 1, 1);
        DUE.is("open of 840 * (k + 1)", x.open(7, 1), 998);
        DUE.is("open(0, 2)", x.open(0, 2), OUTSIDE);
        DUE.is("open(2, -1)", x.open(2, -1), OUTSIDE);
        DUE.is("open(8, 0)", x.open(8, 0), UNKNOWN);
    }

    private static void p17Meets() {
        AheadRows x = new AheadRows();
        x.told(1, 0, 1, 1);
        x.told(2, -1, 0, 1);
        x.told(1, 0, 2, 2);
        x.told(0, 0, 0, 1);
        x.told(2, -1, -6, -5);
        x.told(1, 1, 0, 1);
        DUE.is("1 and k modulo 10", x.meets(0, 1, 10), 1);
        DUE.is("2 and k modulo 10", x.meets(2, 1, 10), 2);
        DUE.is("1 and 2 modulo 10", x.meets(0, 2, 10), NONE);
        DUE.is("a row and itself", x.meets(1, 1, 9), 0);
        DUE.is("in the head alone", x.meets(3, 0, 10), 1);
        DUE.is("1 and k - 6 modulo 10", x.meets(0, 4, 10), 7);
        DUE.is("1 and k - 6 modulo 7", x.meets(4, 0, 7), 0);
        DUE.is("k and Fibonacci from 2 on", x.each(1, 1, 2), 6);
        x.each(5, 1, 2);
        DUE.is("k + 2 and Fibonacci(k + 2) modulo 10", x.meets(6, 7, 10), 3);
        DUE.is("meets(0, 8, 11)", x.meets(0, 8, 11), UNKNOWN);
        DUE.is("meets(-1, 0, 2)", x.meets(-1, 0, 2), UNKNOWN);
        DUE.is("meets(0, 1, 11)", x.meets(0, 1, 11), OUTSIDE);
        DUE.is("meets(0, 1, 1)", x.meets(0, 1, 1), OUTSIDE);
    }

    private static void p18Told() {
        AheadRows x = new AheadRows();
        DUE.is("told(-10, 0, 0, 0)", x.told(-10, 0, 0, 0), OUTSIDE);
        DUE.is("told(10, 0, 0, 0)", x.told(10, 0, 0, 0), OUTSIDE);
        DUE.is("told(0, -10, 0, 0)", x.told(0, -10, 0, 0), OUTSIDE);
        DUE.is("told(0, 10, 0, 0)", x.told(0, 10, 0, 0), OUTSIDE);
        DUE.is("told(0, 0, -1000, 0)", x.told(0, 0, -1000, 0), OUTSIDE);
        DUE.is("told(0, 0, 1000, 0)", x.told(0, 0, 1000, 0), OUTSIDE);
        DUE.is("told(0, 0, 0, -1000)", x.told(0, 0, 0, -1000), OUTSIDE);
        DUE.is("told(0, 0, 0, 1000)", x.told(0, 0, 0, 1000), OUTSIDE);
        DUE.is("count(0) after wrong ones", x.count(0), 0);
        DUE.is("told(9, 9, 999, 999)", x.told(9, 9, 999, 999), 0);
        DUE.is("told(-9, -9, -999, -999)", x.told(-9, -9, -999, -999), 1);
        DUE.is("term(1, 2)", x.term(1, 2), 17982);
        for (int i = 2; i < 8; i++) DUE.is("told, the " + i + "th", x.told(0, 0, i, 0), i);
        DUE.is("told, the ninth", x.told(0, 0, 0, 0), FULL);
        DUE.is("told, the ninth and wrong", x.told(10, 0, 0, 0), OUTSIDE);
        DUE.is("term(7, 0)", x.term(7, 0), 7);
    }

    private static void p19And20() {
        AheadRows x = new AheadRows();
        DUE.is("sum without rows", x.sum(0, 0), UNKNOWN);
        DUE.is("product without rows", x.product(0, 0), UNKNOWN);
        x.told(1, 0, 3, 3);
        DUE.is("sum(0, 1)", x.sum(0, 1), UNKNOWN);
        DUE.is("sum(1, 0)", x.sum(1, 0), UNKNOWN);
        DUE.is("product(0, 1)", x.product(0, 1), UNKNOWN);
        DUE.is("product(-1, 0)", x.product(-1, 0), UNKNOWN);
        DUE.is("sum(0, 0)", x.sum(0, 0), 1);
        DUE.is("product(0, 1)", x.product(0, 1), 2);
        DUE.is("term of the sum", x.term(1, 5), 6);
        DUE.is("term of the product", x.term(2, 5), 18);
        for (int i = 3; i < 8; i++) x.told(0, 0, 0, 0);
        DUE.is("sum, full", x.sum(0, 0), FULL);
        DUE.is("product, full", x.product(0, 0), FULL);
        DUE.is("sum, full and unknown", x.sum(0, 8), UNKNOWN);
        DUE.is("product, full and unknown", x.product(8, 0), UNKNOWN);
    }

    private static void p21Each() {
        AheadRows x = new AheadRows();
        DUE.is("each without rows", x.each(0, 0, 0), UNKNOWN);
        x.told(2, -1, 0, 1);
        DUE.is("each(0, 0, 0)", x.each(0, 0, 0), OUTSIDE);
        DUE.is("each(0, 6, 0)", x.each(0, 6, 0), OUTSIDE);
        DUE.is("each(0, 1, -1)", x.each(0, 1, -1), OUTSIDE);
        DUE.is("each(0, 1, 10)", x.each(0, 1, 10), OUTSIDE);
        DUE.is("each(1, 6, 0)", x.each(1, 6, 0), UNKNOWN);
        DUE.is("each(0, 1, 0)", x.each(0, 1, 0), 1);
        DUE.is("each(0, 5, 9)", x.each(0, 5, 9), 2);
        DUE.is("term of the each", x.term(2, 3), 24);
        for (int i = 3; i < 8; i++) x.each(0, 1, 1);
        DUE.is("each, full", x.each(0, 1, 1), FULL);
        DUE.is("each, full and outside", x.each(0, 0, 1), OUTSIDE);
    }

    private static void p22Step() {
        AheadRows x = new AheadRows();
        DUE.is("step without rows", x.step(0), UNKNOWN);
        x.told(1, 1, 0, 1);
        DUE.is("step(1)", x.step(1), UNKNOWN);
        DUE.is("step(-1)", x.step(-1), UNKNOWN);
        DUE.is("step(0)", x.step(0), 1);
        DUE.is("step(1)", x.step(1), 2);
        DUE.is("term of the step", x.term(1, 0), 1);
        DUE.is("term of the step", x.term(1, 6), 5);
        DUE.is("term of the step's step", x.term(2, 0), -1);
        for (int i = 3; i < 8; i++) x.step(0);
        DUE.is("step, full", x.step(0), FULL);
        DUE.is("step, full and unknown", x.step(8), UNKNOWN);
    }

    private static void p23Put() {
        AheadRows x = new AheadRows();
        DUE.is("put without rows", x.put(0, 9, 9999), UNKNOWN);
        x.told(1, 1, 0, 1);
        x.step(0);
        x.sum(1, 0);
        DUE.is("term before put", x.term(2, 3), 3);
        DUE.is("by before put", x.by(2, 3, 10), 3);
        for (int m = 2; m <= 10; m++) DUE.is("by before put", x.by(2, 0, m), 1);
        DUE.is("put(0, 0, 2)", x.put(0, 0, 2), 1);
        DUE.is("put(0, 1, -1)", x.put(0, 1, -1), 1);
        DUE.is("put(0, 2, -999)", x.put(0, 2, -999), 0);
        DUE.is("put(0, 3, 999)", x.put(0, 3, 999), 1);
        DUE.is("put(0, 3, 998)", x.put(0, 3, 998), 999);
        DUE.is("term of the row above", x.term(2, 0), 998);
        DUE.is("by of the row above", x.by(2, 0, 10), 8);
        for (int m = 2; m <= 10; m++) DUE.is("by of the row above", x.by(2, 0, m), 998 % m);
        // Its term k is -999 + 1997 * (k + 1) now.
        for (int m = 2; m <= 10; m++) DUE.is("by of the row above", x.by(2, 3, m), 6989 % m);
        DUE.is("put(0, -1, 0)", x.put(0, -1, 0), OUTSIDE);
        DUE.is("put(0, 4, 0)", x.put(0, 4, 0), OUTSIDE);
        DUE.is("put(1, 4, 0)", x.put(1, 4, 0), OUTSIDE);
        DUE.is("put(1, 3, 0)", x.put(1, 3, 0), STATE);
        DUE.is("put(1, 3, 9999)", x.put(1, 3, 9999), STATE);
        DUE.is("put(3, 4, 0)", x.put(3, 4, 0), UNKNOWN);
        for (int what = 0; what <= 3; what++) {
            int most = what < 2 ? 9 : 999;
            DUE.is("put too much", x.put(0, what, most + 1), OUTSIDE);
            DUE.is("put too little", x.put(0, what, -most - 1), OUTSIDE);
            x.put(0, what, -most);
            DUE.is("put the most", x.put(0, what, most), -most);
            DUE.is("put nothing new", x.put(0, what, most), most);
        }
    }

    private static void p24Drop() {
        AheadRows x = new AheadRows();
        DUE.is("drop without rows", x.drop(), STATE);
        x.told(1, 0, 5, 5);
        x.step(0);
        DUE.is("term(1, 0)", x.term(1, 0), 0);
        DUE.is("drop()", x.drop(), 1);
        DUE.is("row(1, 0)", x.row(1, 0), UNKNOWN);
        DUE.is("sum in its place", x.sum(0, 0), 1);
        DUE.is("term of the sum", x.term(1, 0), 10);
        DUE.is("by of the sum", x.by(1, 0, 9), 1);
        DUE.is("drop()", x.drop(), 1);
        DUE.is("drop()", x.drop(), 0);
        DUE.is("drop()", x.drop(), STATE);
    }

    private static void easedTo(AheadRows x, int row, int kind, int... want) {
        DUE.is("ease(" + row + ")", x.ease(row), kind);
        DUE.is("kind after ease", x.row(row, 0), 0);
        for (int what = 1; what <= 4; what++) DUE.is("row(" + row + ", " + what + ") after ease", x.row(row, what), want[what - 1]);
    }

    private static void p25Ease() {
        AheadRows x = new AheadRows();
        x.told(1, 1, 0, 1);
        x.told(1, 1, 2, 1);
        x.each(0, 4, 3);
        x.step(1);
        x.sum(0, 1);
        x.sum(1, 1);
        x.sum(2, 0);
        DUE.is("a sum of an each", x.ease(6), STATE);
        easedTo(x, 2, 3, 7, -1, 2, 13);
        DUE.is("a sum of unlike rows", x.ease(6), STATE);
        easedTo(x, 3, 4, 1, 1, -1, 2);
        easedTo(x, 4, 1, 1, 1, 2, 2);
        easedTo(x, 5, 1, 1, 1, 4, 2);
        DUE.is("a row that is told by now", x.ease(5), STATE);
        x.put(2, 0, 1);
        DUE.is("a sum of rows with another D", x.ease(6), STATE);
        x.put(2, 0, 2);
        x.put(2, 1, 1);
        DUE.is("a sum of rows with another C", x.ease(6), STATE);
        x.put(2, 0, 7);
        x.put(2, 1, -1);
        DUE.is("term(2, 2) after ease", x.term(2, 2), 89);
        DUE.is("by(2, 2, 10) after ease", x.by(2, 2, 10), 9);
        DUE.is("ease(0)", x.ease(0), STATE);
        DUE.is("ease(7)", x.ease(7), UNKNOWN);
        DUE.is("ease(-1)", x.ease(-1), UNKNOWN);
        // An eased row is told, and so no longer far where its part ends.
        x = new AheadRows();
        x.told(1, 0, 1, 1);
        x.each(0, 5, 9);
        DUE.is("before ease", x.term(1, 100), FAR);
        easedTo(x, 1, 3, 1, 0, 1, 1);
        DUE.is("after ease", x.term(1, 100), 1);
    }

    private static void p25EaseRefused() {
        AheadRows x = new AheadRows();
        x.told(3, 0, 999, 0);
        x.each(0, 2, 0);
        x.each(0, 3, 0);
        easedTo(x, 1, 3, 9, 0, 999, 0);
        DUE.is("C of 27", x.ease(2), STATE);
        x = new AheadRows();
        x.told(0, 3, 1, 2);
        x.each(0, 2, 0);
        x.each(0, 3, 0);
        easedTo(x, 1, 3, 6, -9, 1, 3);
        DUE.is("D of 27", x.ease(2), STATE);
        x.told(0, 0, 999, -1);
        x.step(3);
        DUE.is("E of -1000", x.ease(4), STATE);
        x.put(3, 3, 0);
        easedTo(x, 4, 4, 0, 0, -999, 0);
        x.told(1, 0, 0, 500);
        x.sum(5, 5);
        DUE.is("F of 1000", x.ease(6), STATE);
        x.put(5, 3, -499);
        easedTo(x, 6, 1, 1, 0, 0, -998);
        // Term 14 is 9^7 * 999 and far, while the terms 9 and 11 are 0.
        x = new AheadRows();
        x.told(0, 9, 999, 0);
        x.each(0, 5, 9);
        x.each(0, 1, 9);
        DUE.is("a far F", x.ease(1), STATE);
        DUE.is("a great F", x.ease(2), STATE);
    }

    private static void p25EaseProduct() {
        AheadRows x = new AheadRows();
        x.told(3, 0, 2, 6);
        x.told(2, 1, 1, 5);
        x.product(0, 1);
        x.product(1, 0);
        x.product(1, 1);
        x.told(-3, 0, 1, -3);
        x.product(0, 5);
        x.product(2, 5);
        DUE.is("a product of a product", x.ease(7), STATE);
        easedTo(x, 2, 2, 6, 9, 2, 30);
        easedTo(x, 3, 2, 6, 9, 2, 30);
        DUE.is("a product without powers", x.ease(4), STATE);
        easedTo(x, 6, 2, -9, 0, 2, -18);
        DUE.is("term of the eased product", x.term(2, 2), 198);
        x = new AheadRows();
        x.told(3, 0, 2, 7);
        x.told(2, 1, 1, 5);
        x.product(0, 1);
        DUE.is("D is 0, but F is not C * E", x.ease(2), STATE);
        x.put(0, 3, 6);
        x.put(1, 1, 2);
        DUE.is("D of 18", x.ease(2), STATE);
        x.put(1, 1, 1);
        x.put(1, 0, 4);
        DUE.is("C of 12", x.ease(2), STATE);
        // Only one of two rows with D = 0 consists of powers; zeros are powers too.
        x = new AheadRows();
        x.told(2, 0, 1, 1);
        x.told(3, 0, 1, 3);
        x.product(0, 1);
        x.told(5, 0, 0, 0);
        x.told(0, 9, 7, 1);
        x.product(4, 3);
        easedTo(x, 2, 2, 6, 0, 1, 3);
        DUE.is("D of 225", x.ease(5), STATE);
        x.put(3, 0, 1);
        easedTo(x, 5, 2, 0, 9, 0, 0);
    }

    private static void p26Give() {
        AheadRows x = new AheadRows();
        DUE.is("give(-100)", x.give(-100), OUTSIDE);
        DUE.is("give(100)", x.give(100), OUTSIDE);
        DUE.is("give(-99)", x.give(-99), 1);
        DUE.is("give(99)", x.give(99), 2);
        for (int i = 3; i <= 8; i++) DUE.is("give, the " + i + "th", x.give(0), i);
        DUE.is("give, the ninth", x.give(0), FULL);
        DUE.is("give, the ninth and wrong", x.give(100), OUTSIDE);
        DUE.is("count(3)", x.count(3), 8);
    }

    private static void p27Forget() {
        AheadRows x = new AheadRows();
        DUE.is("forget() of none", x.forget(), 0);
        x.give(5);
        x.give(6);
        DUE.is("forget()", x.forget(), 2);
        DUE.is("count(3)", x.count(3), 0);
        DUE.is("guess(0)", x.guess(0), 0);
        DUE.is("give(7)", x.give(7), 1);
    }

    private static void guessIs(int degree, int u, int v, int... given) {
        AheadRows x = new AheadRows();
        for (int value : given) x.give(value);
        String text = "of " + java.util.Arrays.toString(given);
        DUE.is("guess(0) " + text, x.guess(0), degree);
        DUE.is("guess(1) " + text, x.guess(1), u);
        DUE.is("guess(2) " + text, x.guess(2), v);
        DUE.is("guess(3) " + text, x.guess(3), OUTSIDE);
        DUE.is("guess(-1) " + text, x.guess(-1), OUTSIDE);
    }

    private static void p28Guess() {
        guessIs(0, 0, 0);
        guessIs(0, 0, 0, 0);
        guessIs(0, 0, 0, 0, 0, 0, 0, 0, 0, 0, 0);
        guessIs(1, -9, 0, 5);
        guessIs(1, 9, 0, 11, 99);
        guessIs(1, 0, 0, 11, 0);
        guessIs(1, 0, 0, 11, 0, 0);
        guessIs(1, -1, 0, 3, -3, 3, -3, 3, -3, 3, -3);
        guessIs(2, -9, -9, 0, 1);
        guessIs(2, -9, -9, 1, 10);
        guessIs(2, -9, -9, 0, 1, -9);
        guessIs(2, 9, -9, 0, 1, 9);
        guessIs(2, 0, -9, 0, 1, 0);
        guessIs(2, 1, 1, 0, 1, 1, 2, 3, 5, 8, 13);
        guessIs(2, 2, -1, 1, 2, 3, 4, 5, 6, 7, 8);
        // u * 2 + v * 1 = 5: the smallest u is -2, with v 9; the next term leaves only one pair.
        guessIs(2, -2, 9, 1, 2, 5);
        guessIs(2, 2, 1, 1, 2, 5, 12);
        guessIs(NONE, NONE, NONE, 0, 1, 10);
        guessIs(NONE, NONE, NONE, 0, 0, 1);
        guessIs(NONE, NONE, NONE, 1, 2, 4, 8, 16, 32, 64, 63);
        guessIs(NONE, NONE, NONE, 2, 4, 5);
        AheadRows x = new AheadRows();
        x.give(0);
        x.give(1);
        DUE.is("V of degree 2", x.guess(2), -9);
        x.forget();
        DUE.is("U of degree 0 behind another guess", x.guess(1), 0);
        DUE.is("V of degree 0 behind another guess", x.guess(2), 0);
        x.give(0);
        x.give(1);
        DUE.is("V of degree 2 again", x.guess(2), -9);
        x.forget();
        x.give(1);
        DUE.is("degree 1 behind another guess", x.guess(0), 1);
        DUE.is("V of degree 1 behind another guess", x.guess(2), 0);
    }

    private static void foundIs(int[] given, int... want) {
        AheadRows x = new AheadRows();
        for (int value : given) x.give(value);
        DUE.is("found()", x.found(), 0);
        DUE.is("kind found", x.row(0, 0), 0);
        for (int what = 1; what <= 4; what++) {
            DUE.is("row(0, " + what + ") found from " + java.util.Arrays.toString(given), x.row(0, what), want[what - 1]);
        }
        DUE.is("given after found()", x.count(3), given.length);
    }

    private static void p29Found() {
        foundIs(new int[] {}, 0, 0, 0, 0);
        foundIs(new int[] {0, 0, 0}, 0, 0, 0, 0);
        foundIs(new int[] {-99}, -9, 0, -99, 891);
        foundIs(new int[] {3, 6, 12}, 2, 0, 3, 6);
        foundIs(new int[] {7, 0}, 0, 0, 7, 0);
        foundIs(new int[] {0, 1}, -9, -9, 0, 1);
        foundIs(new int[] {5, 7, 12, 19}, 1, 1, 5, 7);
        AheadRows x = new AheadRows();
        for (int i = 0; i < 8; i++) DUE.is("found, the " + i + "th", x.found(), i);
        DUE.is("found, full", x.found(), FULL);
        x.give(0);
        x.give(0);
        x.give(1);
        DUE.is("found without a guess, full", x.found(), STATE);
        x.drop();
        DUE.is("found without a guess", x.found(), STATE);
        DUE.is("count(0)", x.count(0), 7);
    }

    private static void p30Drawn() {
        AheadRows x = new AheadRows();
        long s = 0;
        int[] n = new int[4];
        for (int i = 0; i < 4; i++) {
            s = (1103515245L * s + 12345) % (1L << 31);
            n[i] = (int) (s / 65536 % 7) - 3;
        }
        x.told(n[0], n[1], n[2], n[3]);
        DUE.is("drawn(1, 0, 0)", x.drawn(1, 0, 0), x.lap(0, 5, 0));
        DUE.is("drawn(1, 0, 1)", x.drawn(1, 0, 1), x.count(2));
        DUE.is("drawn(1, 0, 2)", x.drawn(1, 0, 2), 1449466924);
        DUE.is("drawn(30, 1, 0)", x.drawn(30, 1, 0), 339);
        DUE.is("drawn(30, 1, 1)", x.drawn(30, 1, 1), 8);
        DUE.is("drawn(30, 1, 2)", x.drawn(30, 1, 2), 2100427849);
        DUE.is("drawn(1, HIGH, 2)", x.drawn(1, HIGH, 2), new Model().drawn(1, HIGH, 2));
        DUE.is("drawn(2, 0, 2)", x.drawn(2, 0, 2), x.drawn(1, 1449466924, 2));
        DUE.is("drawn adds nothing", x.count(0), 1);
        DUE.is("drawn(0, 0, 0)", x.drawn(0, 0, 0), OUTSIDE);
        DUE.is("drawn(31, 0, 0)", x.drawn(31, 0, 0), OUTSIDE);
        DUE.is("drawn(1, -1, 0)", x.drawn(1, -1, 0), OUTSIDE);
        DUE.is("drawn(1, LOW, 0)", x.drawn(1, LOW, 0), OUTSIDE);
        DUE.is("drawn(1, 0, 3)", x.drawn(1, 0, 3), OUTSIDE);
        DUE.is("drawn(1, 0, -1)", x.drawn(1, 0, -1), OUTSIDE);
    }

    private static void p31And32() {
        AheadRows x = new AheadRows();
        DUE.is("image without rows", x.image(), STATE);
        DUE.is("restore without an image", x.restore(), STATE);
        x.told(1, 1, 0, 1);
        x.step(0);
        x.give(4);
        DUE.is("restore without an image", x.restore(), STATE);
        DUE.is("image()", x.image(), 2);
        long before = x.digest();
        x.put(0, 2, 9);
        x.ease(1);
        x.told(0, 0, 1, 1);
        x.forget();
        x.give(1);
        x.give(2);
        DUE.is("restore()", x.restore(), 2);
        DUE.is("digest after restore()", x.digest(), before);
        DUE.is("term after restore()", x.term(1, 0), 1);
        DUE.is("guess after restore()", x.guess(1), -9);
        x.put(0, 0, 5);
        x.drop();
        x.drop();
        DUE.is("image without rows again", x.image(), STATE);
        DUE.is("restore() again: a refused image leaves the earlier one", x.restore(), 2);
        DUE.is("digest after that", x.digest(), before);
        x.drop();
        x.put(0, 0, 7);
        DUE.is("image() anew", x.image(), 1);
        x.put(0, 0, 8);
        x.restore();
        DUE.is("the newer image", x.row(0, 1), 7);
        x.letter('t');
        x.restore();
        DUE.is("the page is no part of the image", x.count(4), 1);
    }

    private static void p32AfterRows() {
        AheadRows x = Due.of("t1101");
        x.image();
        Due.type(x, "t22");
        DUE.is("rows() that fails", x.rows(), STATE);
        DUE.is("restore() after that", x.restore(), 1);
        x.letter('1');
        x.letter('1');
        DUE.is("rows()", x.rows(), 1);
        DUE.is("restore() after rows()", x.restore(), STATE);
        DUE.is("the rows stay", x.row(0, 1), 2);
        DUE.is("restore() after rows(), again", x.restore(), STATE);
        x.image();
        DUE.is("restore() of a newer image", x.restore(), 1);
        DUE.is("its row", x.row(0, 1), 2);
        DUE.is("rows() is counted on", x.count(5), 2);
    }

    private static void p33Count() {
        AheadRows x = Due.of("t0a01;t1a01;t1101;d0;t0000");
        x.give(1);
        x.give(2);
        Due.type(x, "abc");
        int[] want = {5, 4, 2, 2, 3, 1};
        for (int what = 0; what <= 5; what++) DUE.is("count(" + what + ")", x.count(what), want[what]);
        DUE.is("count(-1)", x.count(-1), OUTSIDE);
        DUE.is("count(6)", x.count(6), OUTSIDE);
        DUE.is("count(HIGH)", x.count(HIGH), OUTSIDE);
        DUE.is("count(LOW)", x.count(LOW), OUTSIDE);
    }

    /** The digest by the answers of the other methods. */
    private static long digestBy(AheadRows x, String page, int... given) {
        java.util.List<Integer> all = new java.util.ArrayList<>();
        for (int row = 0; row < x.count(0); row++) {
            for (int what = 0; what <= 4; what++) all.add(x.row(row, what));
            for (int number = 0; number <= 7; number++) all.add(x.term(row, number));
            all.add(x.by(row, 1000000, 7));
            for (int what = 0; what <= 2; what++) all.add(x.lap(row, 5, what));
            all.add(x.noughts(row));
        }
        for (int value : given) all.add(value);
        for (int what = 0; what <= 2; what++) all.add(x.guess(what));
        for (char c : page.toCharArray()) all.add((int) c);
        for (int what = 0; what <= 5; what++) all.add(x.count(what));
        long h = 1493;
        for (int v : all) h = 31 * h + v;
        return h;
    }

    private static void p34Digest() {
        AheadRows x = Due.of(EIGHT);
        DUE.is("digest of eight rows", x.digest(), digestBy(x, ""));
        x.give(-5);
        x.give(7);
        x.give(8);
        DUE.is("digest with given terms", x.digest(), digestBy(x, "", -5, 7, 8));
        Due.type(x, "t0 ~");
        DUE.is("digest with a page", x.digest(), digestBy(x, "t0 ~", -5, 7, 8));
        x.put(0, 3, -999);
        x.each(0, 1, 1);
        DUE.is("digest after put", x.digest(), digestBy(x, "t0 ~", -5, 7, 8));
    }

    private static void errorsChangeNothing() {
        AheadRows x = Due.of(EIGHT);
        x.give(1);
        x.letter('x');
        x.image();
        long before = x.digest();
        x.told(0, 0, 0, 0);
        x.told(10, 0, 0, 0);
        x.sum(0, 0);
        x.product(0, 9);
        x.each(0, 1, 1);
        x.step(7);
        x.put(0, 0, 10);
        x.put(2, 0, 1);
        x.put(0, 4, 1);
        x.ease(0);
        x.ease(2);
        x.give(100);
        x.letter(31);
        x.rows();
        x.found();
        x.drawn(5, 5, 0);
        x.least(7, 7, 3);
        x.fault();
        x.guess(0);
        DUE.is("digest after errors", x.digest(), before);
    }
}
