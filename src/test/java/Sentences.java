import java.util.ArrayList;
import java.util.List;
import java.util.function.IntUnaryOperator;

/**
 * Tests of the document sentence by sentence: says() names the sentence that the answers behind it try, and a wrong
 * answer is told with it. CoverTest holds the sentences against the document.
 */
abstract class Sentences {
    static final int NONE = Due.NONE, FAR = Due.FAR, UNKNOWN = Due.UNKNOWN;
    static final int OUTSIDE = Due.OUTSIDE, STATE = Due.STATE, FULL = Due.FULL;
    static final int LOW = Integer.MIN_VALUE, HIGH = Integer.MAX_VALUE;
    static final String EIGHT = "t1101;t2036;+01;*01;e023;d0;e112;*22";
    static final String EIGHT_TOLD = "t0000;t0000;t0000;t0000;t0000;t0000;t0000;t0000";

    private static final int MOST_SHOWN = 3;

    private final Due due = new Due(getClass().getSimpleName(), MOST_SHOWN);
    private final List<String[]> quotes = new ArrayList<>();
    private String section = "";
    private String sentence = "";
    private int askedBefore;

    /** A call that takes a row. */
    interface RowCall {
        long on(AheadRows x, int row);
    }

    abstract void all();

    final void run() {
        all();
        closeSentence();
        due.end();
    }

    /** The sections and sentences that the tests name, in pairs. */
    final List<String[]> quotes() {
        all();
        return quotes;
    }

    final void section(String name) {
        section = name;
    }

    final void says(String text) {
        closeSentence();
        sentence = text;
        due.showAgain();
        askedBefore = due.asked();
        quotes.add(new String[] {section, text});
    }

    private void closeSentence() {
        if (!sentence.isEmpty() && due.asked() == askedBefore) is("a test of this sentence", 0, 1);
    }

    final void is(String call, long got, long want) {
        due.is(section + ", \"" + sentence + "\": " + call, got, want);
    }

    final void holds(String what, boolean holds) {
        is(what, holds ? 1 : 0, 1);
    }

    // ---- objects to begin with

    static AheadRows of(String text) {
        return Due.of(text);
    }

    /** A new object with told rows, four numbers each. */
    static AheadRows told(int... numbers) {
        AheadRows x = new AheadRows();
        for (int i = 0; i + 3 < numbers.length; i += 4) x.told(numbers[i], numbers[i + 1], numbers[i + 2], numbers[i + 3]);
        return x;
    }

    /** A new object with so many rows, of all kinds from five on. */
    static AheadRows withRows(int rows) {
        AheadRows x = of(EIGHT);
        while (x.count(0) > rows) x.drop();
        return x;
    }

    static AheadRows given(int... terms) {
        AheadRows x = new AheadRows();
        for (int term : terms) x.give(term);
        return x;
    }

    static AheadRows onPage(String text) {
        AheadRows x = new AheadRows();
        Due.type(x, text);
        return x;
    }

    static String repeated(String text, int times) {
        return text.repeat(times);
    }

    // ---- what is asked often

    final void rowIs(AheadRows x, int row, int... numbers) {
        for (int what = 0; what <= 4; what++) {
            is("row(" + row + ", " + what + ")", x.row(row, what), what < numbers.length ? numbers[what] : NONE);
        }
    }

    final void termsAre(AheadRows x, int row, int... terms) {
        for (int k = 0; k < terms.length; k++) is("term(" + row + ", " + k + ")", x.term(row, k), terms[k]);
    }

    final void faultIs(String text, int want) {
        is("fault of \"" + text + "\"", onPage(text).fault(), want);
    }

    /** The text is one of rows: it has no fault and is read. */
    final void isRead(String text, int rows) {
        AheadRows x = onPage(text);
        is("fault of \"" + text + "\"", x.fault(), text.length());
        is("rows of \"" + text + "\"", x.rows(), rows);
    }

    /** The text has a fault and is not read. */
    final void isRefused(String text, int fault) {
        AheadRows x = onPage(text);
        is("fault of \"" + text + "\"", x.fault(), fault);
        is("rows of \"" + text + "\"", x.rows(), STATE);
    }

    final void ruleIs(AheadRows x, int row, int... rule) {
        for (int what = 0; what <= 4; what++) {
            is("rule(" + row + ", " + what + ")", x.rule(row, what), what < rule.length ? rule[what] : 0);
        }
    }

    final void lapIs(AheadRows x, int row, int m, int... want) {
        for (int what = 0; what < 3; what++) is("lap(" + row + ", " + m + ", " + what + ")", x.lap(row, m, what), want[what]);
    }

    final void leastIs(AheadRows x, int row, int p, int... want) {
        for (int what = 0; what <= 8; what++) {
            is("least(" + row + ", " + p + ", " + what + ")", x.least(row, p, what), what < want.length ? want[what] : 0);
        }
    }

    final void guessIs(AheadRows x, int degree, int u, int v) {
        is("guess(0)", x.guess(0), degree);
        is("guess(1)", x.guess(1), u);
        is("guess(2)", x.guess(2), v);
    }

    final void easedTo(AheadRows x, int row, int kind, int... numbers) {
        is("ease(" + row + ")", x.ease(row), kind);
        rowIs(x, row, 0, numbers[0], numbers[1], numbers[2], numbers[3]);
    }

    final void notEased(String name, AheadRows x, int row) {
        int kind = x.row(row, 0);
        is("ease of " + name, x.ease(row), STATE);
        is("kind of " + name + " after that", x.row(row, 0), kind);
    }

    /** Rows behind the last one and below 0 are unknown, the last one is not; so without rows, with some and with eight. */
    final void unknownRows(String name, RowCall call) {
        for (int rows = 0; rows <= 8; rows++) {
            AheadRows x = withRows(rows);
            for (int row : new int[] {rows, rows + 1, 8, -1, LOW, HIGH}) {
                is(name + " of row " + row + " of " + rows, call.on(x, row), UNKNOWN);
            }
            if (rows > 0) {
                holds(name + " knows row " + (rows - 1) + " of " + rows, call.on(x, rows - 1) != UNKNOWN);
            }
        }
    }

    /** Just outside and far outside is OUTSIDE, the least and the most are not. */
    final void outside(String name, IntUnaryOperator call, int least, int most) {
        for (int v : new int[] {least - 1, most + 1, LOW, HIGH}) {
            is(name + " with " + v, call.applyAsInt(v), OUTSIDE);
        }
        for (int v : new int[] {least, most}) {
            holds(name + " with " + v + " is not outside", call.applyAsInt(v) != OUTSIDE);
        }
    }
}
