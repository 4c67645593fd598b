/** The section "Description" on easing rows and on given terms, sentence by sentence. */
final class DescribedEaseTest extends Sentences {
    public static void main(String[] args) {
        new DescribedEaseTest().run();
    }

    @Override
    void all() {
        easedRows();
        sameTerms();
        easedEaches();
        easedSteps();
        easedSums();
        easedProducts();
        easedProductsRefused();
        starts();
        ranges();
        rangesOfTerms();
        givenTerms();
        degreeNought();
        degreeOne();
        degreeTwo();
        bounds();
        smallest();
    }

    private void easedRows() {
        section("Description");
        says("A row that is not told can be eased, that is, replaced by a told row with the same terms");
        AheadRows x = of("t1101;t2012");
        notEased("a told row", x, 0);
        x.step(0);
        easedTo(x, 2, 4, 1, 1, 1, 0);
        notEased("an eased row", x, 2);
        says("in these cases, if its parts are told:");
        AheadRows y = of("t1101;d0;d1;e110;+01;+10;*01;*10");
        for (int row = 2; row < 8; row++) notEased("row " + row + " with a part that is not told", y, row);
        y.ease(1);
        for (int row = 2; row < 6; row++) is("ease(" + row + ") when the part is told", y.ease(row), new int[] {4, 3, 1, 1}[row - 2]);
        for (int row = 6; row < 8; row++) notEased("a product without powers", y, row);
    }

    /** Eases a row, and asks for the same near terms and remainders before and after. */
    private void staysTheSame(String name, AheadRows x, int row) {
        int[] before = new int[12];
        int[][] by = new int[11][12];
        for (int k = 0; k < 12; k++) {
            before[k] = x.term(row, k);
            for (int m = 7; m <= 10; m++) by[m][k] = x.by(row, 17 * k, m);
        }
        holds(name + " is eased", x.ease(row) < NONE);
        is(name + " is told", x.row(row, 0), 0);
        for (int k = 0; k < 12; k++) {
            if (before[k] != FAR) is("term " + k + " of " + name, x.term(row, k), before[k]);
            for (int m = 7; m <= 10; m++) is("by(" + 17 * k + ", " + m + ") of " + name, x.by(row, 17 * k, m), by[m][k]);
        }
    }

    private void sameTerms() {
        says("replaced by a told row with the same terms");
        AheadRows x = told(2, 1, -3, 4, 2, 1, 5, -6, -3, 0, 2, -6, 1, -2, 7, 5);
        x.each(0, 2, 0);
        x.sum(0, 1);
        x.product(2, 0);
        x.step(3);
        staysTheSame("an each", x, 4);
        staysTheSame("a sum", x, 5);
        AheadRows y = told(2, 1, -3, 4, -3, 0, 2, -6, 1, -2, 7, 5);
        y.product(1, 0);
        y.product(0, 1);
        y.step(2);
        staysTheSame("a product", y, 3);
        staysTheSame("a product the other way round", y, 4);
        AheadRows z = told(1, -2, 7, 5, 0, 0, 7, 5, 3, 0, 5, 1);
        z.step(0);
        z.step(1);
        z.each(2, 1, 1);
        staysTheSame("a step", z, 3);
        staysTheSame("a step of 7, 5, 0, 0, ...", z, 4);
        staysTheSame("an each of 5, 1, 3, 9, ...", z, 5);
    }

    private void easedEaches() {
        says("each: C and D become G1 and G2 of its rule");
        AheadRows x = told(1, 1, 0, 1);
        x.each(0, 1, 9);
        x.each(0, 2, 3);
        x.each(0, 3, 0);
        x.each(0, 4, 3);
        x.each(0, 5, 0);
        easedTo(x, 1, 3, 1, 1, 34, 55);
        easedTo(x, 2, 3, 3, -1, 2, 5);
        easedTo(x, 3, 3, 4, 1, 0, 2);
        easedTo(x, 4, 3, 7, -1, 2, 13);
        notEased("an each with G1 of 11", x, 5);
        // C 1, D -1: all fifth powers are in the ranges
        AheadRows y = told(1, -1, 2, 5);
        y.each(0, 5, 9);
        easedTo(y, 1, 3, 1, -1, -2, 3);
    }

    private void easedSteps() {
        says("step: C and D are those of its part");
        AheadRows x = told(9, -9, 5, 7, -9, 9, 5, 4, 0, 0, 5, 5);
        x.step(0);
        x.step(1);
        x.step(2);
        easedTo(x, 3, 4, 9, -9, 2, 11);
        easedTo(x, 4, 4, -9, 9, -1, 5);
        easedTo(x, 5, 4, 0, 0, 0, -5);
    }

    private void easedSums() {
        says("sum, if both parts have the same C and the same D: C and D are these");
        AheadRows x = told(9, -9, 5, 7, 9, -9, -2, 3, 9, -8, 5, 7, 8, -9, 5, 7);
        x.sum(0, 1);
        x.sum(0, 0);
        x.sum(0, 2);
        x.sum(3, 0);
        easedTo(x, 4, 1, 9, -9, 3, 10);
        easedTo(x, 5, 1, 9, -9, 10, 14);
        notEased("a sum with another D", x, 6);
        notEased("a sum with another C", x, 7);
        x.put(2, 1, -9);
        easedTo(x, 6, 1, 9, -9, 10, 14);
        AheadRows y = told(1, 2, 0, 1, 2, 1, 0, 1);
        y.sum(0, 1);
        notEased("a sum with C and D exchanged", y, 2);
    }

    private void easedProducts() {
        says("product, if one part has D = 0 and F = C * E");
        AheadRows x = told(3, 0, 2, 6, 2, 1, 1, 5);
        x.product(0, 1);
        x.product(1, 0);
        x.product(1, 1);
        x.product(0, 0);
        easedTo(x, 2, 2, 6, 9, 2, 30);
        easedTo(x, 3, 2, 6, 9, 2, 30);
        notEased("a product without such a part", x, 4);
        easedTo(x, 5, 2, 9, 0, 4, 36);
        AheadRows y = told(3, 0, 2, 7, 2, 1, 1, 5);
        y.product(0, 1);
        notEased("D = 0, but F is not C * E", y, 2);
        y.put(0, 3, 5);
        notEased("D = 0, but F is not C * E", y, 2);
        y.put(0, 3, 6);
        y.put(0, 1, 1);
        notEased("F = C * E, but D is not 0", y, 2);
        y.put(0, 1, 0);
        is("both", y.ease(2), 2);
        // a row of zeros, and one of zeros but for the first, are such parts too
        AheadRows z = told(1, 0, 0, 0, 2, 3, 4, 5, 0, 0, 7, 0);
        z.product(0, 1);
        z.product(1, 2);
        easedTo(z, 3, 2, 2, 3, 0, 0);
        easedTo(z, 4, 2, 0, 0, 28, 0);
        // two rows with D = 0, of which one alone is such a part
        AheadRows w = told(2, 0, 1, 1, 3, 0, 1, 3);
        w.product(0, 1);
        w.product(1, 0);
        w.product(0, 0);
        easedTo(w, 2, 2, 6, 0, 1, 3);
        easedTo(w, 3, 2, 6, 0, 1, 3);
        notEased("D = 0 in both, but F = C * E in none", w, 4);
    }

    private void easedProductsRefused() {
        says("C becomes the product of both C, and D becomes C * C of this part times D of the other one");
        AheadRows x = told(-3, 0, 2, -6, 3, 1, 1, 5);
        x.product(0, 1);
        easedTo(x, 2, 2, -9, 9, 2, -30);
        AheadRows y = told(-3, 0, 1, -3, 3, -1, 1, 5);
        y.product(1, 0);
        easedTo(y, 2, 2, -9, -9, 1, -15);
        AheadRows z = told(3, 0, 1, 3, 4, 1, 1, 5, 3, 2, 1, 5);
        z.product(0, 1);
        z.product(0, 2);
        notEased("C of 12", z, 3);
        notEased("D of 18", z, 4);
        z.put(0, 0, -3);
        z.put(0, 3, -3);
        notEased("C of -12", z, 3);
        z.put(2, 1, -2);
        notEased("D of -18", z, 4);
    }

    private void starts() {
        says("E and F become the terms 0 and 1 of the row");
        AheadRows x = told(1, 1, 0, 1, 2, 0, 3, 6);
        x.each(0, 1, 7);
        x.step(1);
        x.sum(0, 0);
        x.product(0, 1);
        for (int row = 2; row < 6; row++) {
            int e = x.term(row, 0), f = x.term(row, 1);
            x.ease(row);
            is("E of row " + row, x.row(row, 3), e);
            is("F of row " + row, x.row(row, 4), f);
        }
    }

    private void ranges() {
        says("All four numbers must be in the ranges of told rows");
        // C: third powers of 2 and of 3
        AheadRows x = told(2, 0, 1, 1, 3, 0, 1, 1, -2, 0, 1, 1, -3, 0, 1, 1);
        for (int row = 0; row < 4; row++) x.each(row, 3, 0);
        easedTo(x, 4, 3, 8, 0, 1, 4);
        notEased("C of 27", x, 5);
        easedTo(x, 6, 3, -8, 0, 1, 4);
        notEased("C of -27", x, 7);
        // C of 9 and of 10, of -9 and of -10
        AheadRows y = told(3, 0, 1, 0, 2, 3, 1, 0, 2, 0, 1, 2, 5, 0, 1, 1);
        y.each(0, 2, 0);
        y.each(1, 2, 0);
        y.product(2, 3);
        easedTo(y, 4, 3, 9, 0, 1, 0);
        notEased("C of 10 by an each", y, 5);
        notEased("C of 10 by a product", y, 6);
        y.put(3, 0, -5);
        notEased("C of -10 by a product", y, 6);
        y.put(2, 0, 3);
        y.put(2, 3, 3);
        y.put(3, 0, -3);
        easedTo(y, 6, 2, -9, 0, 1, 3);
        // D of 9, -9 and beyond
        AheadRows d = told(0, 3, 1, 2, 0, -3, 1, 2);
        d.each(0, 2, 0);
        d.each(1, 2, 0);
        d.each(0, 3, 0);
        d.each(1, 3, 0);
        easedTo(d, 2, 3, 6, -9, 1, 3);
        easedTo(d, 3, 3, -6, -9, 1, -3);
        notEased("D of 27", d, 4);
        notEased("D of -27", d, 5);
        // D of 8 and of 12 by products
        AheadRows p = told(2, 0, 1, 2, 1, 2, 1, 1, 1, 3, 1, 1, 1, -2, 1, 1, 1, -3, 1, 1);
        p.product(0, 1);
        p.product(0, 2);
        easedTo(p, 5, 2, 2, 8, 1, 2);
        notEased("D of 12", p, 6);
        p.drop();
        p.product(0, 4);
        notEased("D of -12", p, 6);
        p.product(0, 3);
        easedTo(p, 7, 2, 2, -8, 1, 2);
    }

    private void rangesOfTerms() {
        // E and F of 999 and of 1000, and below 0
        AheadRows x = told(0, 0, 499, 0, 0, 0, 500, 0, 0, 0, 0, 499, 0, 0, 0, 500);
        for (int row = 0; row < 4; row++) x.sum(row, row);
        easedTo(x, 4, 1, 0, 0, 998, 0);
        notEased("E of 1000", x, 5);
        easedTo(x, 6, 1, 0, 0, 0, 998);
        notEased("F of 1000", x, 7);
        x.put(1, 2, -500);
        notEased("E of -1000", x, 5);
        x.put(3, 3, -500);
        notEased("F of -1000", x, 7);
        AheadRows y = told(0, 0, 1, 1, 0, 0, 998, 998, 0, 0, 999, 999);
        y.sum(0, 1);
        y.sum(0, 2);
        easedTo(y, 3, 1, 0, 0, 999, 999);
        notEased("E and F of 1000", y, 4);
        for (int row = 0; row < 3; row++) {
            y.put(row, 2, -y.row(row, 3));
            y.put(row, 3, -y.row(row, 4));
        }
        y.sum(0, 1);
        easedTo(y, 5, 1, 0, 0, -999, -999);
        notEased("E and F of -1000", y, 4);
        says("(and both terms not far)");
        AheadRows far = told(9, 9, 999, 999);
        far.each(0, 1, 9);
        is("term(1, 0)", far.term(1, 0), FAR);
        notEased("an each from a far term on", far, 1);
        far.put(0, 2, 0);
        far.put(0, 3, 0);
        easedTo(far, 1, 3, 9, 9, 0, 0);
        // E would be 0, but F 999 * 9^4
        AheadRows late = told(0, 9, 0, 999);
        late.each(0, 1, 8);
        is("term(1, 0)", late.term(1, 0), 0);
        notEased("an each with a great F", late, 1);
    }

    private void givenTerms() {
        says("At most 8 terms (-99 to 99) can be given, in their order");
        AheadRows x = new AheadRows();
        for (int i = 1; i <= 8; i++) is("give, the " + i + "th", x.give(i % 2 == 0 ? -99 : 99), i);
        is("give, the ninth", x.give(0), FULL);
        is("give(100)", new AheadRows().give(100), OUTSIDE);
        is("give(-100)", new AheadRows().give(-100), OUTSIDE);
        guessIs(given(1, 2, 4), 1, 2, 0);
        guessIs(given(4, 2, 1), NONE, NONE, NONE);
        AheadRows y = given(7, -5, 3);
        y.found();
        is("E of what is found", y.row(0, 3), 7);
        is("F of what is found", y.row(0, 4), -5);
    }

    private void degreeNought() {
        says("A guess of degree 0 explains them if all are 0");
        for (int n = 1; n <= 8; n++) guessIs(given(new int[n]), 0, 0, 0);
        for (int at = 0; at < 8; at++) {
            int[] terms = new int[8];
            terms[at] = 1;
            is("degree with 1 at " + at, given(terms).guess(0), at == 0 ? 1 : at == 1 ? 2 : NONE);
        }
        says("(Without given terms the degree is 0.)");
        guessIs(new AheadRows(), 0, 0, 0);
        AheadRows x = given(1, 2, 3);
        x.forget();
        guessIs(x, 0, 0, 0);
    }

    private void degreeOne() {
        says("one of degree 1, with a number U, if each of them but the first is U times the one before");
        guessIs(given(5), 1, -9, 0);
        guessIs(given(5, 10), 1, 2, 0);
        guessIs(given(5, 0), 1, 0, 0);
        guessIs(given(5, 0, 0, 0, 0, 0, 0, 0), 1, 0, 0);
        guessIs(given(3, -3, 3, -3, 3, -3, 3, -3), 1, -1, 0);
        // the last term breaks it
        is("degree of 3, -3, ..., 3, 3", given(3, -3, 3, -3, 3, -3, 3, 3).guess(0), NONE);
        is("degree of 5, 11", given(5, 11).guess(0), 2);
        is("degree of 0, 5", given(0, 5).guess(0), 2);
    }

    private void degreeTwo() {
        says("one of degree 2, with U and V, if each but the first two is U times the one before plus V times the one before that");
        guessIs(given(0, 1), 2, -9, -9);
        guessIs(given(1, 10), 2, -9, -9);
        guessIs(given(1, 2, 5, 12), 2, 2, 1);
        guessIs(given(0, 1, 1, 2, 3, 5, 8, 13), 2, 1, 1);
        guessIs(given(0, 1, 1, 2, 3, 5, 8, 14), NONE, NONE, NONE);
        guessIs(given(0, 0, 1), NONE, NONE, NONE);
        guessIs(given(1, 2, 3, 4, 5, 6, 7, 8), 2, 2, -1);
        // the smallest degree is at most 2: no told row has 1, 4, 9, 16, 25
        guessIs(given(1, 4, 9, 16, 25), NONE, NONE, NONE);
    }

    private void bounds() {
        says("U and V are from -9 to 9");
        guessIs(given(11, 99), 1, 9, 0);
        guessIs(given(11, -99), 1, -9, 0);
        is("degree of 9, 90, which U 10 would explain", given(9, 90).guess(0), 2);
        is("degree of 9, -90, which U -10 would explain", given(9, -90).guess(0), 2);
        guessIs(given(0, 1, 9), 2, 9, -9);
        guessIs(given(0, 1, -9), 2, -9, -9);
        guessIs(given(0, 1, 10), NONE, NONE, NONE);
        guessIs(given(0, 1, -10), NONE, NONE, NONE);
        guessIs(given(0, 1, 0, 9), 2, 0, 9);
        guessIs(given(0, 1, 0, -9), 2, 0, -9);
        guessIs(given(0, 1, 0, 10), NONE, NONE, NONE);
        guessIs(given(0, 1, 0, -10), NONE, NONE, NONE);
    }

    private void smallest() {
        says("The guess is the one with the smallest degree from 0 to 2");
        // zeros, and powers, are explained by greater degrees too
        guessIs(given(0, 0, 0), 0, 0, 0);
        guessIs(given(1, 2, 4, 8), 1, 2, 0);
        guessIs(given(1, 9, 81), 1, 9, 0);
        guessIs(given(1, 1, 1, 1), 1, 1, 0);
        says("of several, the one with the smallest U");
        guessIs(given(-7), 1, -9, 0);
        // u * 2 + v = 5: from -2, 9 to 7, -9
        guessIs(given(1, 2, 5), 2, -2, 9);
        guessIs(given(1, -2, 5), 2, -7, -9);
        says("of several, the one with the smallest V");
        guessIs(given(0, 3, 6), 2, 2, -9);
        guessIs(given(0, 3), 2, -9, -9);
        guessIs(given(0, 1, 9), 2, 9, -9);
    }
}
