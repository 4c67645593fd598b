/** Promises 18 to 25, sentence by sentence: what is done with rows. */
final class DoneTest extends Sentences {
    public static void main(String[] args) {
        new DoneTest().run();
    }

    @Override
    void all() {
        toldRow();
        toldRefused();
        sum();
        product();
        each();
        eachRefused();
        step();
        put();
        putRefused();
        drop();
        ease();
        easeRefused();
    }

    private void toldRow() {
        section("Promise 18");
        says("Adds a told row");
        AheadRows x = new AheadRows();
        is("told(1, 2, 3, 4)", x.told(1, 2, 3, 4), 0);
        rowIs(x, 0, 0, 1, 2, 3, 4);
        is("count(0)", x.count(0), 1);
        says("`c`: C, -9 to 9");
        x = new AheadRows();
        is("told(-9, 0, 0, 0)", x.told(-9, 0, 0, 0), 0);
        is("told(9, 0, 0, 0)", x.told(9, 0, 0, 0), 1);
        rowIs(x, 0, 0, -9, 0, 0, 0);
        rowIs(x, 1, 0, 9, 0, 0, 0);
        says("`d`: D, -9 to 9");
        x = new AheadRows();
        is("told(0, -9, 0, 0)", x.told(0, -9, 0, 0), 0);
        is("told(0, 9, 0, 0)", x.told(0, 9, 0, 0), 1);
        rowIs(x, 0, 0, 0, -9, 0, 0);
        rowIs(x, 1, 0, 0, 9, 0, 0);
        says("`e`: E, -999 to 999");
        x = new AheadRows();
        is("told(0, 0, -999, 0)", x.told(0, 0, -999, 0), 0);
        is("told(0, 0, 999, 0)", x.told(0, 0, 999, 0), 1);
        rowIs(x, 0, 0, 0, 0, -999, 0);
        rowIs(x, 1, 0, 0, 0, 999, 0);
        says("`f`: F, -999 to 999");
        x = new AheadRows();
        is("told(0, 0, 0, -999)", x.told(0, 0, 0, -999), 0);
        is("told(0, 0, 0, 999)", x.told(0, 0, 0, 999), 1);
        rowIs(x, 0, 0, 0, 0, 0, -999);
        rowIs(x, 1, 0, 0, 0, 0, 999);
    }

    private void toldRefused() {
        says("Returns the number of the row");
        AheadRows x = new AheadRows();
        for (int i = 0; i < 8; i++) {
            is("told, the " + i + "th", x.told(0, 0, i, 0), i);
            is("its term", x.term(i, 0), i);
        }
        says("OUTSIDE if an argument is out of range");
        for (AheadRows y : new AheadRows[] {new AheadRows(), withRows(8)}) {
            int rows = y.count(0);
            for (int v : new int[] {-10, 10, LOW, HIGH}) {
                is("told(" + v + ", 0, 0, 0)", y.told(v, 0, 0, 0), OUTSIDE);
                is("told(0, " + v + ", 0, 0)", y.told(0, v, 0, 0), OUTSIDE);
            }
            for (int v : new int[] {-1000, 1000, LOW, HIGH}) {
                is("told(0, 0, " + v + ", 0)", y.told(0, 0, v, 0), OUTSIDE);
                is("told(0, 0, 0, " + v + ")", y.told(0, 0, 0, v), OUTSIDE);
            }
            is("rows after that", y.count(0), rows);
        }
        says("FULL if there are 8 rows");
        is("told with 7 rows", withRows(7).told(0, 0, 0, 0), 7);
        is("told with 8 rows", x.told(0, 0, 0, 0), FULL);
        is("told with 8 rows", x.told(9, -9, 999, -999), FULL);
        is("rows after that", x.count(0), 8);
        x.drop();
        is("told when one is dropped", x.told(0, 0, 5, 0), 7);
        is("its term", x.term(7, 0), 5);
    }

    private void sum() {
        section("Promise 19");
        says("Adds a sum");
        AheadRows x = told(2, -1, 0, 1, 1, 0, 3, 3);
        is("sum(0, 1)", x.sum(0, 1), 2);
        rowIs(x, 2, 1, 0, 1);
        termsAre(x, 2, 3, 4, 5, 6);
        is("sum(2, 1)", x.sum(2, 1), 3);
        rowIs(x, 3, 1, 2, 1);
        termsAre(x, 3, 6, 7, 8, 9);
        says("`other`: a part, possibly the same");
        is("sum(0, 0)", x.sum(0, 0), 4);
        rowIs(x, 4, 1, 0, 0);
        termsAre(x, 4, 0, 2, 4, 6);
        says("Returns the number of the row");
        for (int i = 5; i < 8; i++) is("sum, the " + i + "th", x.sum(i - 1, i - 1), i);
        is("its term", x.term(7, 3), 48);
        says("UNKNOWN if there is no such row");
        unknownRows("sum(.., 0)", (y, row) -> y.sum(row, 0));
        unknownRows("sum(0, ..)", (y, row) -> y.sum(0, row));
        is("sum(8, 8) with 8 rows", x.sum(8, 8), UNKNOWN);
        says("FULL if there are 8 rows");
        is("sum with 8 rows", x.sum(0, 0), FULL);
        is("sum with 8 rows", x.sum(7, 7), FULL);
        is("rows after that", x.count(0), 8);
        is("sum with 7 rows", withRows(7).sum(6, 6), 7);
    }

    private void product() {
        section("Promise 20");
        says("Adds a product");
        AheadRows x = told(2, -1, 0, 1, 1, 0, 3, 3);
        is("product(0, 1)", x.product(0, 1), 2);
        rowIs(x, 2, 2, 0, 1);
        termsAre(x, 2, 0, 3, 6, 9);
        is("product(2, 1)", x.product(2, 1), 3);
        rowIs(x, 3, 2, 2, 1);
        termsAre(x, 3, 0, 9, 18, 27);
        says("`other`: a part, possibly the same");
        is("product(0, 0)", x.product(0, 0), 4);
        rowIs(x, 4, 2, 0, 0);
        termsAre(x, 4, 0, 1, 4, 9);
        says("Returns the number of the row");
        for (int i = 5; i < 8; i++) is("product, the " + i + "th", x.product(i - 1, i - 1), i);
        is("its term", x.term(7, 2), 65536);
        says("UNKNOWN if there is no such row");
        unknownRows("product(.., 0)", (y, row) -> y.product(row, 0));
        unknownRows("product(0, ..)", (y, row) -> y.product(0, row));
        is("product(8, 8) with 8 rows", x.product(8, 8), UNKNOWN);
        says("FULL if there are 8 rows");
        is("product with 8 rows", x.product(0, 0), FULL);
        is("product with 8 rows", x.product(7, 7), FULL);
        is("rows after that", x.count(0), 8);
        is("product with 7 rows", withRows(7).product(6, 6), 7);
    }

    private void each() {
        section("Promise 21");
        says("Adds an each");
        AheadRows x = told(2, -1, 0, 1);
        is("each(0, 2, 3)", x.each(0, 2, 3), 1);
        rowIs(x, 1, 3, 0, 2, 3);
        termsAre(x, 1, 3, 5, 7, 9);
        is("each(1, 3, 1)", x.each(1, 3, 1), 2);
        termsAre(x, 2, 5, 11, 17, 23);
        says("`n`: N, 1 to 5");
        for (int n = 1; n <= 5; n++) is("each(0, " + n + ", 0)", x.each(0, n, 0), n + 2);
        for (int n = 1; n <= 5; n++) termsAre(x, n + 2, 0, n, 2 * n, 3 * n);
        says("`s`: S, 0 to 9");
        for (int s = 0; s <= 9; s++) {
            AheadRows y = told(2, -1, 0, 1);
            is("each(0, 1, " + s + ")", y.each(0, 1, s), 1);
            termsAre(y, 1, s, s + 1, s + 2);
        }
        says("Returns the number of the row");
        x = told(2, -1, 0, 1);
        for (int i = 1; i < 8; i++) is("each, the " + i + "th", x.each(i - 1, 1, 1), i);
        is("its term", x.term(7, 3), 10);
    }

    private void eachRefused() {
        says("UNKNOWN if there is no such row");
        unknownRows("each(.., 1, 0)", (y, row) -> y.each(row, 1, 0));
        AheadRows x = withRows(8);
        is("each(8, 0, 0)", x.each(8, 0, 0), UNKNOWN);
        is("each(-1, 1, 10)", x.each(-1, 1, 10), UNKNOWN);
        says("OUTSIDE if n or s is out of range");
        for (int rows : new int[] {1, 8}) {
            AheadRows y = withRows(rows);
            outside("each(0, .., 0) with " + rows, n -> y.each(0, n, 0), 1, 5);
            AheadRows z = withRows(rows);
            outside("each(0, 1, ..) with " + rows, s -> z.each(0, 1, s), 0, 9);
            is("each(0, 0, 10)", z.each(0, 0, 10), OUTSIDE);
        }
        says("FULL if there are 8 rows");
        is("each with 8 rows", x.each(0, 1, 0), FULL);
        is("each with 8 rows", x.each(7, 5, 9), FULL);
        is("rows after that", x.count(0), 8);
        is("each with 7 rows", withRows(7).each(6, 5, 9), 7);
    }

    private void step() {
        section("Promise 22");
        says("Adds a step");
        AheadRows x = told(1, 1, 0, 1);
        is("step(0)", x.step(0), 1);
        rowIs(x, 1, 4, 0);
        termsAre(x, 1, 1, 0, 1, 1, 2);
        is("step(1)", x.step(1), 2);
        rowIs(x, 2, 4, 1);
        termsAre(x, 2, -1, 1, 0, 1);
        says("Returns the number of the row");
        for (int i = 3; i < 8; i++) is("step, the " + i + "th", x.step(i - 1), i);
        // each step goes one number back: Fibonacci from -7 on
        termsAre(x, 7, 13, -8, 5, -3, 2, -1, 1, 0, 1);
        says("UNKNOWN if there is no such row");
        unknownRows("step", AheadRows::step);
        says("FULL if there are 8 rows");
        is("step with 8 rows", x.step(0), FULL);
        is("step with 8 rows", x.step(7), FULL);
        is("rows after that", x.count(0), 8);
        is("step with 7 rows", withRows(7).step(6), 7);
    }

    private void put() {
        section("Promise 23");
        says("Sets a number of a told row");
        AheadRows x = told(1, 1, 0, 1, 5, 6, 7, 8);
        x.put(0, 0, 2);
        rowIs(x, 0, 0, 2, 1, 0, 1);
        x.put(0, 1, -1);
        rowIs(x, 0, 0, 2, -1, 0, 1);
        x.put(0, 2, 10);
        rowIs(x, 0, 0, 2, -1, 10, 1);
        x.put(0, 3, 13);
        rowIs(x, 0, 0, 2, -1, 10, 13);
        rowIs(x, 1, 0, 5, 6, 7, 8);
        says("All rows that are made of it change accordingly");
        x = told(1, 1, 0, 1, 1, 0, 3, 3);
        x.step(0);
        x.sum(2, 1);
        x.product(1, 3);
        x.each(4, 2, 1);
        long before = x.digest();
        is("term of an each of a product of a sum of a step", x.term(5, 1), 3 * (3 + 1));
        for (int m = 2; m <= 10; m++) is("by of it", x.by(5, 1, m), 12 % m);
        is("rule of the step", x.rule(2, 1), 1);
        x.put(0, 0, 2);
        x.put(0, 1, -1);
        x.put(0, 3, 7);
        // the row is 7 * k now, its step 7, the sum 10, the product 30
        is("term of it then", x.term(5, 1), 30);
        for (int m = 2; m <= 10; m++) is("by of it then", x.by(5, 1000, m), 30 % m);
        is("lap of it then", x.lap(5, 7, 0), 1);
        is("noughts of the row then", x.noughts(0), 1);
        is("rule of the step then", x.rule(2, 1), 2);
        x.put(1, 2, -3);
        is("term 0 of the product", x.term(4, 0), -12);
        is("term 1 of the product", x.term(4, 1), 30);
        x.put(1, 2, 3);
        x.put(0, 0, 1);
        x.put(0, 1, 1);
        x.put(0, 3, 1);
        is("digest() when all is put back", x.digest(), before);
        // a row that has been eased is no longer made of its parts
        x.ease(2);
        x.put(0, 2, 50);
        is("term of the eased step", x.term(2, 0), 1);
    }

    private void putRefused() {
        says("`what`: 0: C; 1: D; 2: E; 3: F");
        AheadRows x = told(1, 2, 3, 4);
        for (int what = 0; what <= 3; what++) is("put(0, " + what + ", 0)", x.put(0, what, 0), what + 1);
        says("`v`: the new value, -9 to 9 for C and D, -999 to 999 for E and F");
        for (int what = 0; what <= 3; what++) {
            int most = what < 2 ? 9 : 999;
            is("put(0, " + what + ", " + -most + ")", x.put(0, what, -most), 0);
            is("put(0, " + what + ", " + most + ")", x.put(0, what, most), -most);
        }
        says("Returns the previous value");
        for (int what = 0; what <= 3; what++) {
            int most = what < 2 ? 9 : 999;
            is("put(0, " + what + ", 1)", x.put(0, what, 1), most);
            is("put of the same value", x.put(0, what, 1), 1);
            is("row(0, " + (what + 1) + ")", x.row(0, what + 1), 1);
        }
        says("UNKNOWN if there is no such row");
        unknownRows("put(.., 0, 0)", (y, row) -> y.put(row, 0, 0));
        is("put(1, 4, 10)", x.put(1, 4, 10), UNKNOWN);
        says("OUTSIDE if what is not 0 to 3");
        AheadRows all = of(EIGHT);
        for (int row : new int[] {0, 1, 2, 3, 4, 5, 7}) {
            outside("put(" + row + ", .., 0)", what -> all.put(row, what, 0), 0, 3);
            is("put(" + row + ", 4, 1000)", all.put(row, 4, 1000), OUTSIDE);
        }
        says("STATE if the row is not told");
        for (int row = 2; row < 8; row++) {
            for (int what = 0; what <= 3; what++) {
                is("put(" + row + ", " + what + ", 0)", all.put(row, what, 0), STATE);
                is("put(" + row + ", " + what + ", 1000)", all.put(row, what, 1000), STATE);
            }
        }
        AheadRows eased = of("t1101;d0");
        eased.ease(1);
        is("put into an eased row", eased.put(1, 2, 5), 1);
        says("OUTSIDE if v is out of range");
        AheadRows one = told(1, 2, 3, 4);
        for (int what = 0; what <= 3; what++) {
            int w = what;
            int most = what < 2 ? 9 : 999;
            outside("put(0, " + what + ", ..)", v -> one.put(0, w, v), -most, most);
            is("its value then", one.row(0, what + 1), most);
        }
    }

    private void drop() {
        section("Promise 24");
        says("Removes the last row");
        AheadRows x = told(1, 0, 5, 5, 1, 0, 6, 6);
        x.step(0);
        x.give(3);
        x.term(2, 0);
        x.by(2, 0, 9);
        x.drop();
        is("row(2, 0)", x.row(2, 0), UNKNOWN);
        rowIs(x, 1, 0, 1, 0, 6, 6);
        is("given terms then", x.count(3), 1);
        is("another in its place", x.sum(0, 1), 2);
        is("term of that one", x.term(2, 0), 11);
        for (int m = 2; m <= 10; m++) is("by of that one", x.by(2, 0, m), 11 % m);
        says("Returns how many rows are left");
        AheadRows all = of(EIGHT);
        for (int left = 7; left >= 0; left--) {
            is("drop()", all.drop(), left);
            is("count(0)", all.count(0), left);
        }
        says("STATE if there are no rows");
        is("drop() without rows", all.drop(), STATE);
        is("drop() of a new object", new AheadRows().drop(), STATE);
        is("told then", all.told(0, 0, 0, 0), 0);
    }

    private void ease() {
        section("Promise 25");
        says("Eases a row: it becomes a told one with the same number");
        AheadRows x = told(1, 1, 0, 1, 1, 1, 2, 1, 2, 0, 1, 2);
        x.each(0, 2, 3);
        x.step(1);
        x.sum(0, 1);
        x.product(0, 2);
        x.sum(3, 6);
        int[][] before = new int[8][12];
        for (int row = 0; row < 8; row++) {
            for (int k = 0; k < 12; k++) before[row][k] = x.term(row, k);
        }
        easedTo(x, 3, 3, 3, -1, 2, 5);
        easedTo(x, 4, 4, 1, 1, -1, 2);
        easedTo(x, 5, 1, 1, 1, 2, 2);
        easedTo(x, 6, 2, 2, 4, 0, 2);
        for (int row = 0; row < 8; row++) {
            for (int k = 0; k < 12; k++) is("term(" + row + ", " + k + ") as before", x.term(row, k), before[row][k]);
        }
        is("count(0)", x.count(0), 8);
        is("count(1)", x.count(1), 7);
        // the row above is made of told rows now
        is("rule(7, 0)", x.rule(7, 0), 4);
        for (int m = 2; m <= 10; m++) is("by(6, 5, " + m + ")", x.by(6, 5, m), 160 % m);
        // a told row is far by its own terms alone, no longer by the numbers of its part's
        AheadRows far = told(1, 0, 1, 1);
        far.each(0, 5, 9);
        far.step(0);
        is("term(1, 39) of an each", far.term(1, 39), FAR);
        is("term(2, 200) of a step", far.term(2, 200), FAR);
        far.ease(1);
        far.ease(2);
        is("term(1, 39) of a told row", far.term(1, 39), 1);
        is("term(1, 200) of a told row", far.term(1, 200), 1);
        is("term(2, 200) of a told row", far.term(2, 200), 0);
        says("Returns the kind that it had");
        AheadRows y = of("t1101;t1021;+00;*01;e010;d0");
        int[] kinds = {0, 0, 1, 2, 3, 4};
        for (int row = 2; row < 6; row++) is("ease(" + row + ")", y.ease(row), row == 3 ? STATE : kinds[row]);
        y.put(1, 3, 2);
        is("ease(3)", y.ease(3), 2);
        says("UNKNOWN if there is no such row");
        unknownRows("ease", AheadRows::ease);
    }

    private void easeRefused() {
        says("STATE if it cannot be eased");
        AheadRows x = of("t1101;d0;d1;t1111;*03;e050;+02");
        notEased("a step of a step", x, 2);
        notEased("a product without powers", x, 4);
        notEased("an each whose C would be 11", x, 5);
        notEased("a sum with a part that is not told", x, 6);
        says("(also if it is told)");
        notEased("a told row", x, 0);
        notEased("a told row", x, 3);
        x.ease(1);
        notEased("a row that has been eased", x, 1);
        rowIs(x, 1, 0, 1, 1, 1, 0);
        is("a step of it then", x.ease(2), 4);
    }
}
