import java.util.Arrays;

/** Promises 26 to 30, sentence by sentence: given terms, their guess, and rows that are drawn. */
final class GivenTest extends Sentences {
    public static void main(String[] args) {
        new GivenTest().run();
    }

    @Override
    void all() {
        give();
        forget();
        guess();
        found();
        foundRefused();
        drawn();
        drawnRefused();
    }

    private void give() {
        section("Promise 26");
        says("Gives a further term");
        AheadRows x = new AheadRows();
        x.give(3);
        guessIs(x, 1, -9, 0);
        x.give(6);
        guessIs(x, 1, 2, 0);
        x.give(12);
        x.give(0);
        guessIs(x, NONE, NONE, NONE);
        says("`v`: the term, -99 to 99");
        for (int v : new int[] {-99, 99}) {
            x = new AheadRows();
            is("give(" + v + ")", x.give(v), 1);
            x.found();
            is("the term given", x.row(0, 3), v);
        }
        says("Returns how many terms are given then");
        x = new AheadRows();
        for (int i = 1; i <= 8; i++) {
            is("give, the " + i + "th", x.give(i), i);
            is("count(3)", x.count(3), i);
        }
        says("OUTSIDE if v is out of range");
        for (int v : new int[] {-100, 100, LOW, HIGH}) {
            is("give(" + v + ") with 8 given", x.give(v), OUTSIDE);
            is("give(" + v + ") with none", new AheadRows().give(v), OUTSIDE);
        }
        says("FULL if 8 terms are given");
        is("give with 8 given", x.give(0), FULL);
        is("give(99) with 8 given", x.give(99), FULL);
        is("count(3)", x.count(3), 8);
        x.forget();
        is("give when they are forgotten", x.give(0), 1);
        is("give with 7 given", given(1, 2, 3, 4, 5, 6, 7).give(-99), 8);
    }

    private void forget() {
        section("Promise 27");
        says("Removes all given terms");
        AheadRows x = of("t1101");
        x.letter('t');
        long before = x.digest();
        for (int v : new int[] {5, 6, 99, 1}) x.give(v);
        x.forget();
        is("digest() as before", x.digest(), before);
        guessIs(x, 0, 0, 0);
        x.give(7);
        guessIs(x, 1, -9, 0);
        says("Returns how many there were");
        is("forget() of none", new AheadRows().forget(), 0);
        is("forget() of one", x.forget(), 1);
        is("forget() again", x.forget(), 0);
        is("forget() of eight", given(1, 2, 3, 4, 5, 6, 7, 8).forget(), 8);
    }

    private void guess() {
        section("Promise 28");
        says("Returns the guess for the given terms");
        AheadRows x = given(1, 2, 5, 12);
        long before = x.digest();
        guessIs(x, 2, 2, 1);
        is("digest() after guess()", x.digest(), before);
        is("count(3) after guess()", x.count(3), 4);
        says("`what`: 0: its degree");
        is("no terms", given().guess(0), 0);
        is("zeros", given(0, 0).guess(0), 0);
        is("powers", given(1, 2).guess(0), 1);
        is("others", given(0, 1).guess(0), 2);
        says("1: U (0 if the degree is 0)");
        is("U of no terms", given().guess(1), 0);
        is("U of zeros", given(0, 0, 0, 0, 0, 0, 0, 0).guess(1), 0);
        is("U of degree 1", given(11, 99).guess(1), 9);
        is("U of degree 2", given(0, 1, 9).guess(1), 9);
        says("2: V (0 if the degree is 0 or 1)");
        is("V of no terms", given().guess(2), 0);
        is("V of zeros", given(0).guess(2), 0);
        is("V of degree 1", given(11, 99).guess(2), 0);
        is("V of degree 2", given(0, 1, 9).guess(2), -9);
        // behind another guess
        x = given(0, 1);
        guessIs(x, 2, -9, -9);
        x.forget();
        guessIs(x, 0, 0, 0);
        x.give(0);
        x.give(1);
        guessIs(x, 2, -9, -9);
        x.forget();
        x.give(1);
        guessIs(x, 1, -9, 0);
        says("Returns that number");
        guessIs(given(0, 4, -8), 2, -2, -9);
        guessIs(given(0, 1, 1, 2, 3, 5, 8, 13), 2, 1, 1);
        says("OUTSIDE if what is out of range");
        outside("guess(..) of no terms", what -> new AheadRows().guess(what), 0, 2);
        outside("guess(..) of degree 2", what -> given(0, 1, 1).guess(what), 0, 2);
        outside("guess(..) of none", what -> given(0, 0, 1).guess(what), 0, 2);
        says("NONE if there is no guess");
        guessIs(given(0, 0, 1), NONE, NONE, NONE);
        guessIs(given(0, 1, 10), NONE, NONE, NONE);
        guessIs(given(1, 2, 4, 8, 16, 32, 64, 63), NONE, NONE, NONE);
    }

    private void foundIs(int[] given, int... want) {
        AheadRows x = given(given);
        String text = " from " + Arrays.toString(given);
        is("found()" + text, x.found(), 0);
        rowIs(x, 0, 0, want[0], want[1], want[2], want[3]);
        for (int k = 0; k < given.length; k++) is("term " + k + text, x.term(0, k), given[k]);
        is("given after found()", x.count(3), given.length);
    }

    private void found() {
        section("Promise 29");
        says("Adds the guess as a told row: with degree 0, all four numbers are 0");
        foundIs(new int[] {}, 0, 0, 0, 0);
        foundIs(new int[] {0}, 0, 0, 0, 0);
        foundIs(new int[] {0, 0, 0, 0, 0, 0, 0, 0}, 0, 0, 0, 0);
        says("with degree 1, C is U, D is 0, E is the first given term, and F is U times this");
        foundIs(new int[] {-99}, -9, 0, -99, 891);
        foundIs(new int[] {99}, -9, 0, 99, -891);
        foundIs(new int[] {3, 6, 12}, 2, 0, 3, 6);
        foundIs(new int[] {7, 0}, 0, 0, 7, 0);
        foundIs(new int[] {11, 99}, 9, 0, 11, 99);
        says("with degree 2, C is U, D is V, and E and F are the first two given terms");
        foundIs(new int[] {0, 1}, -9, -9, 0, 1);
        foundIs(new int[] {-98, 99}, -9, -9, -98, 99);
        foundIs(new int[] {5, 7, 12, 19}, 1, 1, 5, 7);
        foundIs(new int[] {0, 4, -8}, -2, -9, 0, 4);
        foundIs(new int[] {1, 2, 3, 4, 5, 6, 7, 8}, 2, -1, 1, 2);
    }

    private void foundRefused() {
        says("Returns the number of the row");
        AheadRows x = new AheadRows();
        for (int i = 0; i < 8; i++) is("found, the " + i + "th", x.found(), i);
        says("STATE if there is no guess");
        AheadRows none = given(0, 0, 1);
        is("found() without a guess", none.found(), STATE);
        is("rows after that", none.count(0), 0);
        while (none.count(0) < 8) none.told(0, 0, 0, 0);
        is("found() without a guess, full", none.found(), STATE);
        says("FULL if there are 8 rows");
        is("found() of degree 0 with 8 rows", x.found(), FULL);
        x.give(5);
        is("found() of degree 1 with 8 rows", x.found(), FULL);
        x.give(1);
        is("found() of degree 2 with 8 rows", x.found(), FULL);
        is("rows after that", x.count(0), 8);
        x.drop();
        is("found() with 7 rows", x.found(), 7);
        rowIs(x, 7, 0, -9, -9, 5, 1);
    }

    /** s after so many draws, by the document's words. */
    private static long after(long seed, int draws) {
        long s = seed;
        for (int i = 0; i < draws; i++) s = (1103515245L * s + 12345) % 2147483648L;
        return s;
    }

    private static AheadRows drawnRow(long seed, int index) {
        int[] n = new int[4];
        for (int i = 0; i < 4; i++) n[i] = (int) (after(seed, 4 * index + i + 1) / 65536 % 7) - 3;
        return told(n);
    }

    private void drawn() {
        section("Promise 30");
        says("Examines pseudo-random told rows, which are not added");
        AheadRows x = of(EIGHT);
        x.give(4);
        long before = x.digest();
        is("drawn(30, 1, 0)", x.drawn(30, 1, 0), 339);
        is("drawn(30, 1, 0) again", x.drawn(30, 1, 0), 339);
        is("digest() after drawn()", x.digest(), before);
        AheadRows y = new AheadRows();
        is("drawn without rows", y.drawn(30, 1, 0), 339);
        is("count(0) after drawn()", y.count(0), 0);
        is("told after drawn()", y.told(1, 1, 0, 1), 0);
        is("drawn with one row", y.drawn(1, 0, 1), 0);
        is("count(0) after drawn()", y.count(0), 1);
        is("count(1) after drawn()", y.count(1), 1);
        says("There is a number s, which is the seed at first");
        is("two rows are one and another", x.drawn(2, 0, 2), x.drawn(1, x.drawn(1, 0, 2), 2));
        says("To draw a number means: s becomes (1103515245 * s + 12345) modulo 2^31, without overflow");
        for (int seed : new int[] {0, 1, 65536, 2000000000, HIGH - 1, HIGH}) {
            is("drawn(1, " + seed + ", 2)", x.drawn(1, seed, 2), after(seed, 4));
            is("drawn(30, " + seed + ", 2)", x.drawn(30, seed, 2), after(seed, 120));
        }
        says("the result is (s / 65536, truncated) modulo 7, minus 3");
        drawnRows(x);
        says("For each row, C, D, E and F are drawn, in this order");
        drawnRows(x);
        says("`times`: the number of rows, 1 to 30");
        for (int times = 1; times <= 30; times++) is("drawn(" + times + ", 7, 2)", x.drawn(times, 7, 2), after(7, 4 * times));
        says("`seed`: the seed, 0 or more");
        is("drawn(1, 0, 2)", x.drawn(1, 0, 2), 1449466924);
        is("drawn(1, HIGH, 2)", x.drawn(1, HIGH, 2), after(HIGH, 4));
    }

    /** Rows one at a time, from many seeds, against the lap and the order of the row itself. */
    private void drawnRows(AheadRows x) {
        for (int i = 0; i < 60; i++) {
            int seed = (int) after(i, 3);
            AheadRows row = drawnRow(seed, 0);
            is("drawn(1, " + seed + ", 0)", x.drawn(1, seed, 0), row.lap(0, 5, 0));
            is("drawn(1, " + seed + ", 1)", x.drawn(1, seed, 1), row.roots(0, 3) == 0 ? 0 : 1);
        }
    }

    private void drawnRefused() {
        says("`what`: 0: the sum of their laps modulo 5");
        AheadRows x = new AheadRows();
        for (int seed : new int[] {0, 99, HIGH}) {
            int laps = 0, degenerate = 0;
            for (int i = 0; i < 30; i++) {
                AheadRows row = drawnRow(seed, i);
                laps += row.lap(0, 5, 0);
                degenerate += row.count(2);
                is("the laps of " + (i + 1) + " rows", x.drawn(i + 1, seed, 0), laps);
                is("the degenerate of " + (i + 1) + " rows", x.drawn(i + 1, seed, 1), degenerate);
            }
        }
        says("1: how many of them are degenerate");
        is("drawn(30, 1, 1)", x.drawn(30, 1, 1), 8);
        says("2: s at the end");
        is("drawn(30, 1, 2)", x.drawn(30, 1, 2), 2100427849);
        says("Returns that number");
        is("drawn(30, 1, 0)", x.drawn(30, 1, 0), 339);
        says("OUTSIDE if times, seed or what is out of range");
        outside("drawn(.., 0, 0)", times -> x.drawn(times, 0, 0), 1, 30);
        outside("drawn(.., HIGH, 2)", times -> x.drawn(times, HIGH, 2), 1, 30);
        is("drawn(1, -1, 0)", x.drawn(1, -1, 0), OUTSIDE);
        is("drawn(30, LOW, 2)", x.drawn(30, LOW, 2), OUTSIDE);
        holds("drawn(1, 0, 0) is not outside", x.drawn(1, 0, 0) != OUTSIDE);
        outside("drawn(1, 0, ..)", what -> x.drawn(1, 0, what), 0, 2);
        outside("drawn(30, HIGH, ..)", what -> x.drawn(30, HIGH, what), 0, 2);
    }
}
