import java.util.ArrayList;
import java.util.List;

/** Promises 31 to 34, sentence by sentence: the image, totals and the digest. */
final class OfAllTest extends Sentences {
    public static void main(String[] args) {
        new OfAllTest().run();
    }

    @Override
    void all() {
        image();
        restore();
        restoreRefused();
        count();
        countRefused();
        digest();
        digestOfRows();
    }

    private void image() {
        section("Promise 31");
        says("Keeps an image of all rows and given terms");
        AheadRows x = of(EIGHT);
        for (int v : new int[] {0, 4, -8, 99, -99, 1, 2, 3}) x.give(v);
        long before = x.digest();
        is("image()", x.image(), 8);
        is("digest() after image()", x.digest(), before);
        while (x.count(0) > 0) x.drop();
        x.forget();
        x.told(5, 5, 5, 5);
        x.give(1);
        is("restore()", x.restore(), 8);
        is("digest() after restore()", x.digest(), before);
        is("given after restore()", x.count(3), 8);
        says("in place of an earlier one");
        x = told(1, 0, 3, 3, 1, 0, 4, 4);
        x.give(5);
        x.image();
        x.drop();
        x.put(0, 2, 9);
        x.forget();
        is("image() anew", x.image(), 1);
        x.told(0, 0, 0, 0);
        x.put(0, 2, 1);
        x.give(7);
        is("restore()", x.restore(), 1);
        rowIs(x, 0, 0, 1, 0, 9, 3);
        is("row(1, 0)", x.row(1, 0), UNKNOWN);
        is("given then", x.count(3), 0);
        says("Returns the number of rows");
        for (int rows = 1; rows <= 8; rows++) is("image() of " + rows, withRows(rows).image(), rows);
        says("STATE if there are no rows");
        x = new AheadRows();
        x.give(4);
        is("image() without rows", x.image(), STATE);
        is("restore() then", x.restore(), STATE);
        x.told(1, 0, 3, 3);
        x.image();
        x.drop();
        is("image() without rows again", x.image(), STATE);
        is("restore() of the earlier one", x.restore(), 1);
    }

    private void restore() {
        section("Promise 32");
        says("Restores the image, which stays kept");
        AheadRows x = told(1, 1, 0, 1);
        x.step(0);
        x.give(4);
        x.image();
        long before = x.digest();
        for (int i = 0; i < 3; i++) {
            x.put(0, i, 5 + i);
            x.ease(1);
            x.told(0, 0, i, 0);
            x.give(i);
            x.give(i + 50);
            is("restore()", x.restore(), 2);
            is("digest() after restore()", x.digest(), before);
        }
        is("restore() of what stands", x.restore(), 2);
        is("digest() after that", x.digest(), before);
        says("the rows and the given terms become as they were then");
        x.letter('t');
        x.put(0, 0, 9);
        is("term before", x.term(1, 1), 9 - 1);
        for (int m = 2; m <= 10; m++) is("by before", x.by(1, 1, m), 8 % m);
        x.restore();
        is("kind of row 1", x.row(1, 0), 4);
        is("term then", x.term(1, 1), 0);
        for (int m = 2; m <= 10; m++) is("by then", x.by(1, 1, m), 0);
        guessIs(x, 1, -9, 0);
        is("the page is as it was before", x.count(4), 1);
        is("count(5) is as it was before", x.count(5), 0);
        // with more rows and with fewer than the image has
        x = withRows(3);
        x.image();
        while (x.count(0) < 8) x.told(1, 0, 9, 9);
        is("restore() with eight", x.restore(), 3);
        is("row(3, 0)", x.row(3, 0), UNKNOWN);
        while (x.count(0) > 0) x.drop();
        is("restore() without rows", x.restore(), 3);
        is("term(2, 1)", x.term(2, 1), 7);
        says("Returns the number of rows then");
        for (int rows = 1; rows <= 8; rows++) {
            x = withRows(rows);
            x.image();
            x.drop();
            is("restore() of " + rows, x.restore(), rows);
            is("count(0)", x.count(0), rows);
        }
    }

    private void restoreRefused() {
        says("STATE if there is no image");
        AheadRows x = new AheadRows();
        is("restore() of a new object", x.restore(), STATE);
        x.told(1, 1, 0, 1);
        is("restore() without an image", x.restore(), STATE);
        is("the row after that", x.count(0), 1);
        says("or rows() has succeeded since it was kept");
        x = of("t1101");
        x.give(3);
        x.image();
        Due.type(x, "t22");
        is("rows() that does not succeed", x.rows(), STATE);
        is("restore() after that", x.restore(), 1);
        Due.type(x, "11");
        is("rows()", x.rows(), 1);
        is("restore() after rows()", x.restore(), STATE);
        rowIs(x, 0, 0, 2, 2, 1, 1);
        is("given after that", x.count(3), 1);
        is("restore() after rows(), again", x.restore(), STATE);
        x.drop();
        is("image() without rows keeps none", x.image(), STATE);
        is("restore() after that", x.restore(), STATE);
        x.told(1, 0, 8, 8);
        is("image()", x.image(), 1);
        is("restore() of the newer image", x.restore(), 1);
        rowIs(x, 0, 0, 1, 0, 8, 8);
        // rows() before the image is kept does not matter
        x = of("t1101;d0");
        x.image();
        is("restore() of an image since rows()", x.restore(), 2);
    }

    private void countIs(AheadRows x, int... want) {
        for (int what = 0; what <= 5; what++) is("count(" + what + ")", x.count(what), want[what]);
    }

    private void count() {
        section("Promise 33");
        says("Returns a total");
        AheadRows x = of("t0a01;t1a01;t1101;d0;t0000");
        x.give(1);
        x.give(2);
        Due.type(x, "abc");
        countIs(x, 5, 4, 2, 2, 3, 1);
        countIs(x, 5, 4, 2, 2, 3, 1);
        says("`what`: 0: rows");
        for (int rows = 0; rows <= 8; rows++) is("count(0)", withRows(rows).count(0), rows);
        says("1: told rows");
        is("count(1) of none", new AheadRows().count(1), 0);
        is("count(1) of eight", of(EIGHT_TOLD).count(1), 8);
        is("count(1) of all kinds", of(EIGHT).count(1), 2);
        x = of("t1101;d0");
        is("count(1)", x.count(1), 1);
        x.ease(1);
        is("count(1) when the step is eased", x.count(1), 2);
        says("2: degenerate rows");
        is("count(2) of none", new AheadRows().count(2), 0);
        x = of("t0101;t0101;t0101;t0101;t0a01;t1a01;t2b01;t3c01");
        is("count(2) of eight", x.count(2), 8);
        is("count(2) of zeros", of(EIGHT_TOLD).count(2), 0);
        // rows that are not told are not degenerate, whatever they are made of; eased ones may be
        x = of("t0101;d0;e010;+00");
        is("count(2) beside rows made of it", x.count(2), 1);
        x.ease(1);
        is("count(2) when the step is eased", x.count(2), 2);
        x.put(0, 1, 0);
        is("count(2) after put", x.count(2), 1);
        says("3: given terms");
        for (int n = 0; n <= 8; n++) is("count(3)", given(new int[n]).count(3), n);
    }

    private void countRefused() {
        says("4: the length of the page");
        for (int n = 0; n <= 47; n++) is("count(4)", onPage(repeated("x", n)).count(4), n);
        says("5: how often rows() has succeeded");
        AheadRows x = new AheadRows();
        for (int i = 1; i <= 20; i++) {
            Due.type(x, "t1101");
            x.rows();
            is("count(5)", x.count(5), i);
        }
        x.rows();
        is("count(5) when rows() has not succeeded", x.count(5), 20);
        x.image();
        Due.type(x, "t1101");
        x.rows();
        x.restore();
        is("count(5) is no part of the image", x.count(5), 21);
        x.image();
        x.restore();
        is("count(5) is no part of the image", x.count(5), 21);
        says("Returns that number");
        countIs(x, 1, 1, 0, 0, 0, 21);
        says("OUTSIDE if what is not 0 to 5");
        AheadRows y = x;
        outside("count(..)", y::count, 0, 5);
        outside("count(..) of a new object", what -> new AheadRows().count(what), 0, 5);
    }

    /** The digest by the answers of the other methods. */
    private static long digestBy(AheadRows x, String page, int... given) {
        List<Integer> all = new ArrayList<>();
        for (int row = 0; row < x.count(0); row++) {
            for (int what = 0; what <= 4; what++) all.add(x.row(row, what));
            for (int number = 0; number <= 7; number++) all.add(x.term(row, number));
            all.add(x.by(row, 1000000, 7));
            for (int what = 0; what <= 2; what++) all.add(x.lap(row, 5, what));
            all.add(x.noughts(row));
        }
        for (int value : given) all.add(value);
        for (int what = 0; what <= 2; what++) all.add(x.guess(what));
        for (char c : page.toCharArray()) all.add((int) c);
        for (int what = 0; what <= 5; what++) all.add(x.count(what));
        return hashOf(all);
    }

    private static long hashOf(List<Integer> all) {
        long h = 1493;
        for (int v : all) h = 31 * h + v;
        return h;
    }

    private void digest() {
        section("Promise 34");
        says("Returns a hash of the state");
        AheadRows x = of(EIGHT);
        long h = x.digest();
        is("digest() again", x.digest(), h);
        is("digest() of another object with this state", of(EIGHT).digest(), h);
        x.image();
        is("the image is not in it", x.digest(), h);
        says("h starts as 1493; for each value v of the following list, in this order, h becomes 31 * h + v");
        is("digest() of a new object", new AheadRows().digest(), hashOf(List.of(0, 0, 0, 0, 0, 0, 0, 0, 0)));
        // given: 5; guess: 1, -9, 0; page: "t~"; totals: no rows, one given term, two characters
        AheadRows y = given(5);
        Due.type(y, "t~");
        is("digest() without rows", y.digest(), hashOf(List.of(5, 1, -9, 0, 116, 126, 0, 0, 0, 1, 2, 0)));
        says("(long arithmetic, with overflow)");
        Due.type(x, EIGHT_TOLD);
        for (int i = 1; i <= 8; i++) x.give(-i);
        is("digest() of the longest list", x.digest(), digestBy(x, EIGHT_TOLD, -1, -2, -3, -4, -5, -6, -7, -8));
        says("the given terms");
        is("digest() with no given term", given().digest(), digestBy(given(), ""));
        is("digest() with given terms", given(-99, 99).digest(), digestBy(given(-99, 99), "", -99, 99));
        says("the results of guess() for what 0 to 2");
        // no guess: NONE three times
        is("digest() without a guess", given(0, 0, 1).digest(), hashOf(List.of(0, 0, 1, NONE, NONE, NONE, 0, 0, 0, 3, 0, 0)));
        says("the code of each character of the page");
        is("digest() with a page", onPage(" ~").digest(), hashOf(List.of(0, 0, 0, 32, 126, 0, 0, 0, 0, 2, 0)));
        String full = repeated("~", 47);
        is("digest() with a full page", onPage(full).digest(), digestBy(onPage(full), full));
        says("the results of count() for what 0 to 5");
        AheadRows z = of("t1101");
        z.drop();
        is("digest() after rows() and drop()", z.digest(), hashOf(List.of(0, 0, 0, 0, 0, 0, 0, 0, 1)));
        says("Returns h");
        is("digest() once more", z.digest(), hashOf(List.of(0, 0, 0, 0, 0, 0, 0, 0, 1)));
    }

    private void digestOfRows() {
        says("for each row the results of row() for what 0 to 4, of term() for the numbers 0 to 7, "
            + "of by() for the number 1000000 and m 7, of lap() for m 5 and what 0 to 2, and of noughts()");
        // kind and four numbers; the terms are 1, 0, 9, 0, 81, ...; term 1000000 is 9^500000, as 2^500000 modulo 7 is 4;
        // modulo 5: 1, 0, 4, 0, 1, ...; the noughts are the odd terms, but for those behind 9^10, which is term 20
        AheadRows x = told(0, 9, 1, 0);
        List<Integer> list = List.of(0, 0, 9, 1, 0, 1, 0, 9, 0, 81, 0, 729, 0, 4, 4, 0, 2, 0xAAAAA,
            0, 0, 0, 1, 1, 1, 0, 0, 0);
        is("digest() of a told row", x.digest(), hashOf(list));
        // a far term and missing numbers: FAR and NONE go in as they are
        AheadRows y = told(9, 9, 999, 999);
        y.step(0);
        holds("term(1, 7) is far", y.term(1, 7) == FAR);
        is("digest() with far terms", y.digest(), digestBy(y, ""));
        AheadRows all = of(EIGHT);
        is("digest() of eight rows of all kinds", all.digest(), digestBy(all, ""));
        all.put(0, 3, -999);
        is("digest() after put", all.digest(), digestBy(all, ""));
        all.drop();
        is("digest() after drop", all.digest(), digestBy(all, ""));
    }
}
