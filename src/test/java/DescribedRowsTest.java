/** The sections "What it is" and "Description" as far as kinds of rows and far terms, sentence by sentence. */
final class DescribedRowsTest extends Sentences {
    public static void main(String[] args) {
        new DescribedRowsTest().run();
    }

    @Override
    void all() {
        calls512();
        calls512OfAKind();
        integers();
        eightRows();
        parts();
        toldRows();
        sumsAndProducts();
        eachesAndSteps();
        classes();
        farByNumber();
        farBySize();
        farBySizeOfOthers();
        farByEarlier();
        farByParts();
    }

    /** So many calls that answer and change nothing, one of each kind after the other. */
    private static void fill(AheadRows x, int calls) {
        for (int i = 0; i < calls; i++) {
            int row = i % 8;
            switch (i % 16) {
                case 0: x.term(row, i % 201); break;
                case 1: x.by(row, HIGH - i, 2 + i % 9); break;
                case 2: x.lap(row, 2 + i % 9, i % 3); break;
                case 3: x.least(row, 7, i % 9); break;
                case 4: x.rule(row, i % 5); break;
                case 5: x.roots(row, i % 5); break;
                case 6: x.noughts(row); break;
                case 7: x.ends(row); break;
                case 8: x.open(row, i % 2); break;
                case 9: x.meets(row, 0, 7); break;
                case 10: x.guess(i % 3); break;
                case 11: x.drawn(30, i, 0); break;
                case 12: x.count(i % 6); break;
                case 13: x.digest(); break;
                case 14: x.fault(); break;
                default: x.row(row, i % 5); break;
            }
        }
    }

    private void calls512() {
        section("What it is");
        says("An object is used for at most 512 calls after it has been made");
        // 38 calls make the rows, and the last call is the 512th
        RowCall[] last = {
            (x, row) -> x.term(row, 5), (x, row) -> x.by(row, HIGH, 10), (x, row) -> x.lap(row, 7, 0), (x, row) -> x.least(row, 7, 1),
            (x, row) -> x.rule(row, 0), (x, row) -> x.ends(row), (x, row) -> x.open(row, 0), (x, row) -> x.meets(row, 0, 9),
            (x, row) -> x.put(row, 0, 3), (x, row) -> x.drop(), (x, row) -> x.ease(row), (x, row) -> x.give(row),
            (x, row) -> x.found(), (x, row) -> x.drawn(30, row, 0), (x, row) -> x.image(), (x, row) -> x.digest()};
        for (int i = 0; i < last.length; i++) {
            for (int row : new int[] {0, 5, 7}) {
                AheadRows x = of(EIGHT);
                fill(x, 511 - 37);
                is("call " + i + " for row " + row + ", as the 512th", last[i].on(x, row), last[i].on(of(EIGHT), row));
            }
        }
    }

    private void calls512OfAKind() {
        AheadRows x = new AheadRows();
        for (int i = 1; i <= 85; i++) {
            Due.type(x, "t1101");
            is("rows(), for the " + i + "th time", x.rows(), 1);
        }
        is("count(5) after 510 calls", x.count(5), 85);
        AheadRows y = new AheadRows();
        for (int i = 0; i < 256; i++) {
            is("told, for the " + i + "th time", y.told(0, 0, i, 0), 0);
            is("drop, for the " + i + "th time", y.drop(), 0);
        }
        AheadRows z = told(1, 1, 0, 1);
        for (int i = 1; i <= 127; i++) {
            is("image, for the " + i + "th time", z.image(), 1);
            is("put, for the " + i + "th time", z.put(0, 3, -i), i);
            is("restore, for the " + i + "th time", z.restore(), 1);
            is("put after restore, for the " + i + "th time", z.put(0, 3, i + 1), i);
        }
        AheadRows letters = new AheadRows();
        for (int i = 1; i <= 512; i++) is("letter, for the " + i + "th time", letters.letter('x'), i <= 47 ? i : FULL);
        AheadRows terms = new AheadRows();
        for (int i = 1; i <= 512; i++) is("give, for the " + i + "th time", terms.give(i % 99), i <= 8 ? i : FULL);
    }

    private void integers() {
        section("Description");
        says("The class computes terms exactly and modulo small numbers (also far out)");
        AheadRows x = told(1, 1, 0, 1, 2, -1, 0, 1, 1, 0, 997, 997);
        x.product(2, 2);
        is("term(0, 43)", x.term(0, 43), 433494437);
        is("997 * 997", x.term(3, 200), 994009);
        is("by(1, HIGH, 10)", x.by(1, HIGH, 10), 7);
        says("All sequences (rows) consist of integers");
        termsAre(told(-1, -1, -1, 2), 0, -1, 2, -1, -1, 2, -1);
        says("their terms are numbered from 0 and never end");
        is("term(1, 0)", x.term(1, 0), 0);
        is("term(1, 200)", x.term(1, 200), 200);
        for (int m = 2; m <= 10; m++) {
            is("by(1, 0, " + m + ")", x.by(1, 0, m), 0);
            is("by(1, HIGH, " + m + ")", x.by(1, HIGH, m), HIGH % m);
        }
    }

    private void eightRows() {
        says("There are at most 8 rows, numbered from 0");
        AheadRows x = new AheadRows();
        for (int i = 0; i < 8; i++) is("told", x.told(0, 0, i, i), i);
        is("told, the ninth", x.told(0, 0, 0, 0), FULL);
        is("sum, the ninth", x.sum(0, 0), FULL);
        is("product, the ninth", x.product(0, 0), FULL);
        is("each, the ninth", x.each(0, 1, 0), FULL);
        is("step, the ninth", x.step(0), FULL);
        is("found, the ninth", x.found(), FULL);
        is("term(0, 0)", x.term(0, 0), 0);
        is("term(7, 0)", x.term(7, 0), 7);
        is("term(8, 0)", x.term(8, 0), UNKNOWN);
        isRead("t0000;d0;d0;d0;d0;d0;d0;d0", 8);
        isRefused("t0000;d0;d0;d0;d0;d0;d0;d0;d0", 26);
    }

    private void parts() {
        says("A row is of one of the following kinds");
        AheadRows all = of("t1101;+00;*00;e010;d0");
        for (int kind = 0; kind <= 4; kind++) is("row(" + kind + ", 0)", all.row(kind, 0), kind);
        says("the rows of which it is made are its parts, and have lower numbers");
        for (int rows = 1; rows < 8; rows++) {
            AheadRows x = withRows(rows);
            is("a sum of itself", x.sum(rows, rows), UNKNOWN);
            is("a product of itself", x.product(0, rows), UNKNOWN);
            is("an each of itself", x.each(rows, 1, 0), UNKNOWN);
            is("a step of itself", x.step(rows), UNKNOWN);
            is("a step of the row before", x.step(rows - 1), rows);
            is("its part", x.row(rows, 1), rows - 1);
        }
        isRefused("t0000;d1", 7);
        isRefused("t0000;d2", 7);
        isRefused("t0000;d0;+02", 11);
    }

    private void toldRows() {
        says("0 told: it is given by the integers C and D (-9 to 9) and E and F (-999 to 999)");
        rowIs(told(-9, -9, -999, -999), 0, 0, -9, -9, -999, -999);
        rowIs(told(9, 9, 999, 999), 0, 0, 9, 9, 999, 999);
        AheadRows x = new AheadRows();
        for (int i = 0; i < 4; i++) {
            for (int sign = -1; sign <= 1; sign += 2) {
                int[] n = new int[4];
                n[i] = sign * (i < 2 ? 10 : 1000);
                is("told with " + n[i], x.told(n[0], n[1], n[2], n[3]), OUTSIDE);
            }
        }
        says("term 0 is E, term 1 is F, and each further term k is C * (term k - 1) + D * (term k - 2)");
        termsAre(told(3, -2, 5, -7), 0, 5, -7, -31, -79, -175, -367);
        termsAre(told(0, 0, 5, -7), 0, 5, -7, 0, 0, 0);
        termsAre(told(4, 0, 5, -7), 0, 5, -7, -28, -112, -448);
        termsAre(told(0, 4, 5, -7), 0, 5, -7, 20, -28, 80, -112);
        termsAre(told(9, 9, 999, 999), 0, 999, 999, 17982, 170829);
        termsAre(told(-9, -9, -999, -999), 0, -999, -999, 17982, -152847);
    }

    private void sumsAndProducts() {
        says("1 sum: term k is the sum of the terms k of two rows (possibly the same one)");
        AheadRows x = told(2, -1, 0, 1, 3, 0, -1, -3);
        x.sum(0, 1);
        x.sum(1, 1);
        x.product(0, 1);
        x.product(1, 1);
        x.sum(2, 4);
        x.product(4, 3);
        termsAre(x, 2, -1, -2, -7, -24, -77);
        termsAre(x, 3, -2, -6, -18, -54);
        termsAre(x, 6, -1, -5, -25, -105);
        says("2 product: term k is the product of the terms k of two rows (possibly the same one)");
        termsAre(x, 4, 0, -3, -18, -81);
        termsAre(x, 5, 1, 9, 81, 729);
        termsAre(x, 7, 0, 18, 324, 4374);
    }

    private void eachesAndSteps() {
        says("3 each: it is made of one row, N (1 to 5) and S (0 to 9)");
        AheadRows x = told(2, -1, 0, 1);
        is("each(0, 1, 0)", x.each(0, 1, 0), 1);
        is("each(0, 5, 9)", x.each(0, 5, 9), 2);
        is("each(0, 0, 0)", x.each(0, 0, 0), OUTSIDE);
        is("each(0, 6, 0)", x.each(0, 6, 0), OUTSIDE);
        is("each(0, 1, -1)", x.each(0, 1, -1), OUTSIDE);
        is("each(0, 1, 10)", x.each(0, 1, 10), OUTSIDE);
        says("term k is the term N * k + S of that row");
        x.each(2, 3, 1);
        termsAre(x, 1, 0, 1, 2, 3);
        termsAre(x, 2, 9, 14, 19, 24);
        termsAre(x, 3, 14, 29, 44);
        says("4 step: term k is the term k + 1 minus the term k of one row");
        x.product(0, 0);
        x.step(4);
        x.step(5);
        x.step(6);
        termsAre(x, 5, 1, 3, 5, 7);
        termsAre(x, 6, 2, 2, 2);
        termsAre(x, 7, 0, 0, 0);
        termsAre(steps(told(0, 0, 5, -3)), 1, -8, 3, 0);
    }

    private static AheadRows steps(AheadRows x) {
        x.step(0);
        return x;
    }

    private void classes() {
        says("As classes, sum and product are subclasses of both (5), and each and step are subclasses of over (6)");
        AheadRows x = of("t1101;+00;*00;e010;d0");
        int[] above = {-1, 5, 5, 6, 6};
        for (int kind = 0; kind <= 4; kind++) {
            for (int as = 5; as <= 6; as++) is("as(" + kind + ", " + as + ")", x.as(kind, as), as == above[kind] ? kind : NONE);
        }
    }

    private void farByNumber() {
        says("A term is far if its number is above 200");
        AheadRows x = told(2, -1, 0, 1);
        x.step(0);
        x.each(0, 1, 1);
        x.each(0, 5, 9);
        x.each(0, 2, 0);
        x.each(1, 1, 9);
        x.step(1);
        x.each(0, 1, 0);
        is("term(0, 200)", x.term(0, 200), 200);
        is("a step of 199 and 200", x.term(1, 199), 1);
        is("a step of 200 and 201", x.term(1, 200), FAR);
        is("an each's number 200", x.term(2, 199), 200);
        is("an each's number 201", x.term(2, 200), FAR);
        is("an each's number 199", x.term(3, 38), 199);
        is("an each's number 204", x.term(3, 39), FAR);
        is("an each's number 1009", x.term(3, 200), FAR);
        is("an each's number 200", x.term(4, 100), 200);
        is("an each's number 202", x.term(4, 101), FAR);
        is("a step's number 199", x.term(5, 190), 1);
        is("a step's number 200", x.term(5, 191), FAR);
        is("a step of steps", x.term(6, 198), 0);
        is("a step of steps", x.term(6, 199), FAR);
        is("an each's number 200, as it is", x.term(7, 200), 200);
    }

    private void farBySize() {
        says("or if it is above 1000000000 or below -1000000000");
        is("10^9 in a told row", told(-5, -5, 31, 80).term(0, 13), 1000000000);
        is("-10^9 in a told row", told(-5, -5, -31, -80).term(0, 13), -1000000000);
        is("10^9 in a told row of powers", told(0, 5, 512, 0).term(0, 18), 1000000000);
        is("-10^9 in a told row of powers", told(0, 5, -512, 0).term(0, 18), -1000000000);
        // no told row comes closer from outside
        is("10^9 + 4 in a told row", told(1, 3, 748, 113).term(0, 18), FAR);
        is("-10^9 - 4 in a told row", told(1, 3, -748, -113).term(0, 18), FAR);
        // terms that leave the ints, and would be small when cut to one
        AheadRows x = told(4, 0, 1, 4, -4, 0, 1, -4);
        is("4^14", x.term(0, 14), 268435456);
        for (int k = 15; k <= 200; k++) is("4^" + k, x.term(0, k), FAR);
        is("-4^15", x.term(1, 15), FAR);
        is("4^16, which is 0 as an int", x.term(1, 16), FAR);
    }

    private void farBySizeOfOthers() {
        AheadRows x = told(0, 5, 512, 0, 0, 5, -512, 0, 0, 1, 1, 1, 1, 0, -1, -1);
        x.sum(0, 2);
        x.sum(1, 3);
        x.sum(0, 3);
        x.sum(1, 2);
        is("a sum of 10^9 + 1", x.term(4, 18), FAR);
        is("a sum of -10^9 - 1", x.term(5, 18), FAR);
        is("a sum of 10^9 - 1", x.term(6, 18), 999999999);
        is("a sum of 1 - 10^9", x.term(7, 18), -999999999);
        // at number 100: 31250, 32000, 52579 and 19019
        AheadRows y = told(2, -1, 50, 362, 2, -1, 0, 320, 2, -1, 79, 604, 2, -1, -19, -209);
        y.product(0, 1);
        y.product(2, 3);
        y.told(1, 0, -1, -1);
        y.product(4, 6);
        is("a product of 10^9", y.term(4, 100), 1000000000);
        is("a product of -10^9", y.term(7, 100), -1000000000);
        is("a product of -10^9 - 1", y.term(5, 100), FAR);
        y.put(3, 2, 19);
        y.put(3, 3, 209);
        is("a product of 10^9 + 1", y.term(5, 100), FAR);
        // 0, -10^9, 0 and 1, -10^9, 1 at the numbers 17 to 19
        AheadRows z = told(0, -5, 512, 0, 0, 1, 0, 1);
        z.sum(0, 1);
        z.step(0);
        z.step(2);
        is("a step of -10^9", z.term(3, 17), -1000000000);
        is("a step of 10^9", z.term(3, 18), 1000000000);
        is("a step of -10^9 - 1", z.term(4, 17), FAR);
        is("a step of 10^9 + 1", z.term(4, 18), FAR);
        // products that leave the ints, and would be small when cut to one
        AheadRows w = told(2, 0, 1, 2);
        w.product(0, 0);
        for (int k = 15; k <= 29; k++) is("2^" + 2 * k, w.term(1, k), FAR);
        is("2^28", w.term(1, 14), 268435456);
    }

    private void farByEarlier() {
        says("of a told row, a term is also far if one of its earlier terms is far");
        // 9^9 is term 18, 9^10 is far, and so are the noughts behind it
        AheadRows x = told(0, 9, 1, 0);
        is("9^9", x.term(0, 18), 387420489);
        is("the 0 behind it", x.term(0, 19), 0);
        is("9^10", x.term(0, 20), FAR);
        for (int k = 21; k <= 200; k++) is("term " + k + " behind a far one", x.term(0, k), FAR);
        // each sixth term of these is 0
        AheadRows y = told(3, -3, 0, 1);
        int k = 0;
        while (k < 200 && y.term(0, k) != FAR) k++;
        for (int later = k; later <= 200; later++) is("term " + later, y.term(0, later), FAR);
        is("the first nought behind a far term", y.term(0, (k / 6 + 1) * 6), FAR);
    }

    private void farByParts() {
        says("of another row, if one of the terms of which it is made is far");
        AheadRows x = told(0, 9, 1, 0, 0, 0, 0, 0);
        x.product(0, 1);
        x.product(1, 0);
        x.sum(0, 1);
        x.sum(1, 0);
        x.step(0);
        x.each(0, 2, 1);
        is("0 times a near term", x.term(2, 19), 0);
        is("0 times a far term", x.term(3, 20), FAR);
        is("a far term times 0", x.term(2, 20), FAR);
        is("a far term and 0", x.term(4, 21), FAR);
        is("0 and a far term", x.term(5, 21), FAR);
        is("a step to a near term", x.term(6, 18), -387420489);
        is("a step to a far term", x.term(6, 19), FAR);
        is("a step from a far term", x.term(6, 20), FAR);
        is("an each of near terms", x.term(7, 9), 0);
        is("an each of far terms", x.term(7, 10), FAR);
        // far terms of a part that is not told: the row is far there alone, as only a told row remembers
        AheadRows y = told(0, 1, 999, 1, 0, 0, 0, 0);
        y.product(0, 0);
        y.product(2, 0);
        y.sum(3, 3);
        y.product(4, 1);
        y.each(4, 2, 0);
        y.each(4, 2, 1);
        is("999^3", y.term(3, 0), 997002999);
        is("2 * 999^3", y.term(4, 0), FAR);
        is("2 behind it", y.term(4, 1), 2);
        is("0 times 2 * 999^3", y.term(5, 0), FAR);
        is("0 times 2", y.term(5, 1), 0);
        is("an each of them", y.term(6, 0), FAR);
        is("an each of the others", y.term(7, 0), 2);
        // a difference of two far terms is far, though it is 0
        AheadRows z = told(9, 9, 999, 999, -1, 0, -1, 1);
        z.product(0, 1);
        z.sum(0, 2);
        is("a far term and its opposite", z.term(3, 8), FAR);
        is("a near term and its opposite", z.term(3, 2), 0);
    }
}
