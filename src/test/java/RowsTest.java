import java.math.BigInteger;

/** Promises 6 to 11, sentence by sentence: a row's numbers, terms, remainders and complexity. */
final class RowsTest extends Sentences {
    public static void main(String[] args) {
        new RowsTest().run();
    }

    @Override
    void all() {
        row();
        rowRefused();
        as();
        term();
        by();
        byRefused();
        lap();
        lapRefused();
        least();
        leastRefused();
    }

    private void row() {
        section("Promise 6");
        says("Returns the kind of a row, or a number by which it is given");
        AheadRows x = told(-9, 9, -999, 999);
        x.sum(0, 0);
        x.product(1, 0);
        x.each(2, 5, 9);
        x.step(3);
        x.each(3, 1, 0);
        x.sum(4, 2);
        x.product(0, 6);
        long before = x.digest();
        rowIs(x, 7, 2, 0, 6);
        is("digest() after row()", x.digest(), before);
        says("`row`: the row");
        is("row 0, the first", x.row(0, 0), 0);
        is("row 7, the last", x.row(7, 0), 2);
        says("`what`: 0: its kind");
        int[] kinds = {0, 1, 2, 3, 4, 3, 1, 2};
        for (int row = 0; row < 8; row++) is("row(" + row + ", 0)", x.row(row, 0), kinds[row]);
        says("for a told row 1 to 4: C, D, E, F");
        rowIs(x, 0, 0, -9, 9, -999, 999);
        rowIs(told(9, -9, 999, -999), 0, 0, 9, -9, 999, -999);
        rowIs(told(0, 0, 0, 0), 0, 0, 0, 0, 0, 0);
        says("for a sum or product 1, 2: its parts");
        rowIs(x, 1, 1, 0, 0);
        rowIs(x, 2, 2, 1, 0);
        rowIs(x, 6, 1, 4, 2);
        says("for an each 1: its part, 2: N, 3: S");
        rowIs(x, 3, 3, 2, 5, 9);
        rowIs(x, 5, 3, 3, 1, 0);
        says("for a step 1: its part");
        rowIs(x, 4, 4, 3);
    }

    private void rowRefused() {
        says("Returns that number");
        AheadRows x = of("t0000;d0");
        is("row(0, 1)", x.row(0, 1), 0);
        x.put(0, 0, 9);
        is("row(0, 1) after put", x.row(0, 1), 9);
        says("UNKNOWN if there is no such row");
        unknownRows("row(.., 0)", (y, row) -> y.row(row, 0));
        unknownRows("row(.., 5)", (y, row) -> row >= 0 && row < y.count(0) ? 0 : y.row(row, 5));
        says("OUTSIDE if what is not 0 to 4");
        for (int row = 0; row < 8; row++) {
            AheadRows y = of(EIGHT);
            int r = row;
            outside("row(" + row + ", ..)", what -> y.row(r, what), 0, 4);
        }
        says("NONE if a row of this kind has no such number");
        x = of("t1101;+00;*00;e020;d0");
        int[] most = {4, 2, 2, 3, 1};
        for (int row = 0; row < 5; row++) {
            for (int what = 0; what <= 4; what++) {
                is("row(" + row + ", " + what + ") is NONE", x.row(row, what) == NONE ? 1 : 0, what > most[row] ? 1 : 0);
            }
        }
        x.ease(4);
        is("row(4, 4) of an eased row", x.row(4, 4), 0);
    }

    private void as() {
        section("Promise 7");
        says("Casts a row to a class");
        AheadRows x = of("t1101;+00;*00;e020;d0");
        long before = x.digest();
        is("as(0, 0)", x.as(0, 0), 0);
        is("as(4, 6)", x.as(4, 6), 4);
        is("digest() after as()", x.digest(), before);
        says("`as`: the class, 0 to 6");
        is("as(1, 0)", x.as(1, 0), NONE);
        is("as(3, 6)", x.as(3, 6), 3);
        says("Returns the kind of the row");
        for (int kind = 0; kind <= 4; kind++) is("as(" + kind + ", " + kind + ")", x.as(kind, kind), kind);
        is("as(1, 5)", x.as(1, 5), 1);
        is("as(2, 5)", x.as(2, 5), 2);
        is("as(3, 6)", x.as(3, 6), 3);
        is("as(4, 6)", x.as(4, 6), 4);
        says("UNKNOWN if there is no such row");
        unknownRows("as(.., 0)", (y, row) -> y.as(row, 0));
        unknownRows("as(.., 7)", (y, row) -> row >= 0 && row < y.count(0) ? 0 : y.as(row, 7));
        says("OUTSIDE if as is out of range");
        for (int kind = 0; kind <= 4; kind++) {
            int row = kind;
            AheadRows y = x;
            outside("as(" + kind + ", ..)", as -> y.as(row, as), 0, 6);
        }
        says("NONE if the row is not of that class or a subclass of it");
        for (int kind = 0; kind <= 4; kind++) {
            for (int as = 0; as <= 6; as++) {
                boolean fits = kind == as || (as == 5 && (kind == 1 || kind == 2)) || (as == 6 && kind >= 3);
                if (!fits) is("as(" + kind + ", " + as + ")", x.as(kind, as), NONE);
            }
        }
        x.ease(4);
        is("as(4, 6) of an eased step", x.as(4, 6), NONE);
        is("as(4, 0) of an eased step", x.as(4, 0), 0);
    }

    private void term() {
        section("Promise 8");
        says("Returns a term");
        AheadRows x = of(EIGHT);
        long before = x.digest();
        termsAre(x, 0, 0, 1, 1, 2, 3, 5);
        termsAre(x, 1, 3, 6, 12, 24, 48, 96);
        termsAre(x, 2, 3, 7, 13, 26, 51, 101);
        termsAre(x, 3, 0, 6, 12, 48, 144, 480);
        termsAre(x, 4, 2, 5, 13, 34, 89, 233);
        termsAre(x, 5, 1, 0, 1, 1, 2, 3);
        termsAre(x, 6, 12, 24, 48, 96, 192, 384);
        termsAre(x, 7, 9, 49, 169, 676, 2601, 10201);
        is("digest() after term()", x.digest(), before);
        says("`number`: the number of the term, 0 to 200");
        AheadRows k = told(2, -1, 0, 1);
        for (int number = 0; number <= 200; number++) is("term " + number + " of k", k.term(0, number), number);
        says("Returns the term, FAR if it is far");
        is("term(0, 44)", x.term(0, 44), 701408733);
        is("term(0, 45)", x.term(0, 45), FAR);
        is("term(0, 200)", x.term(0, 200), FAR);
        AheadRows y = told(1, 0, -999, -999);
        is("a negative term", y.term(0, 200), -999);
        says("UNKNOWN if there is no such row");
        unknownRows("term(.., 0)", (z, row) -> z.term(row, 0));
        is("term(8, 201)", x.term(8, 201), UNKNOWN);
        is("term(-1, -1)", x.term(-1, -1), UNKNOWN);
        says("OUTSIDE if number is out of range");
        outside("term(0, ..)", number -> x.term(0, number), 0, 200);
        outside("term(4, ..)", number -> x.term(4, number), 0, 200);
    }

    /** The remainder of term k of the row 5, 15, 45, ..., which no int holds. */
    private static int power(long k, int m) {
        BigInteger big = BigInteger.valueOf(m);
        return BigInteger.valueOf(3).modPow(BigInteger.valueOf(k), big).multiply(BigInteger.valueOf(5)).mod(big).intValue();
    }

    private void by() {
        section("Promise 9");
        says("Returns the remainder of a term");
        AheadRows x = told(3, 0, 5, 15, 2, -1, 0, 1);
        x.each(0, 5, 9);
        x.step(1);
        x.product(0, 1);
        x.sum(1, 0);
        x.each(2, 5, 9);
        x.each(6, 5, 9);
        long before = x.digest();
        for (int m = 2; m <= 10; m++) {
            for (int number : new int[] {0, 1, 5, 6, 7, 1000000, HIGH - 1, HIGH}) {
                String at = number + ", " + m + ")";
                is("by(0, " + at, x.by(0, number, m), power(number, m));
                is("by(3, " + at, x.by(3, number, m), 1);
                is("by(4, " + at, x.by(4, number, m), power(number, m) * (number % m) % m);
                is("by(5, " + at, x.by(5, number, m), (power(number, m) + number % m) % m);
            }
        }
        is("digest() after by()", x.digest(), before);
        says("`number`: the number of the term, 0 or more");
        for (int m = 2; m <= 10; m++) {
            is("by(1, 0, " + m + ")", x.by(1, 0, m), 0);
            is("by(1, HIGH, " + m + ")", x.by(1, HIGH, m), HIGH % m);
            // the numbers of the parts' terms leave the ints
            is("by(2, HIGH, " + m + ")", x.by(2, HIGH, m), power(5L * HIGH + 9, m));
            is("by(7, HIGH, " + m + ")", x.by(7, HIGH, m), power(125L * HIGH + 279, m));
        }
        says("`m`: the modulus, 2 to 10");
        is("by(1, 9, 2)", x.by(1, 9, 2), 1);
        is("by(1, 9, 10)", x.by(1, 9, 10), 9);
        says("Returns the remainder");
        AheadRows y = told(0, 0, -7, -1, 1, 0, -999, -999);
        for (int m = 2; m <= 10; m++) {
            is("by(0, 0, " + m + ")", y.by(0, 0, m), ((-7 % m) + m) % m);
            is("by(0, 1, " + m + ")", y.by(0, 1, m), m - 1);
            is("by(0, 2, " + m + ")", y.by(0, 2, m), 0);
            is("by(1, 5, " + m + ")", y.by(1, 5, m), ((-999 % m) + m) % m);
        }
    }

    private void byRefused() {
        says("UNKNOWN if there is no such row");
        unknownRows("by(.., 0, 2)", (y, row) -> y.by(row, 0, 2));
        AheadRows x = of(EIGHT);
        is("by(8, -1, 2)", x.by(8, -1, 2), UNKNOWN);
        is("by(-1, 0, 11)", x.by(-1, 0, 11), UNKNOWN);
        says("OUTSIDE if number is negative, or m is out of range");
        is("by(0, -1, 2)", x.by(0, -1, 2), OUTSIDE);
        is("by(0, LOW, 10)", x.by(0, LOW, 10), OUTSIDE);
        is("by(0, -1, 11)", x.by(0, -1, 11), OUTSIDE);
        is("by(0, 0, 0)", x.by(0, 0, 0), OUTSIDE);
        is("by(0, 0, -2)", x.by(0, 0, -2), OUTSIDE);
        outside("by(0, 0, ..)", m -> x.by(0, 0, m), 2, 10);
        outside("by(7, HIGH, ..)", m -> x.by(7, HIGH, m), 2, 10);
    }

    private void lap() {
        section("Promise 10");
        says("Returns a property of the remainders of a row");
        AheadRows x = told(1, 1, 0, 1, 2, 0, 1, 2, 0, 2, 1, 1, 2, -1, 0, 1);
        x.sum(0, 2);
        x.product(3, 0);
        x.each(0, 2, 1);
        x.step(0);
        long before = x.digest();
        lapIs(x, 0, 10, 60, 0, 4);
        lapIs(x, 4, 8, 12, 6, 2);
        lapIs(x, 5, 7, 112, 0, 28);
        lapIs(x, 6, 10, 30, 0, 2);
        lapIs(x, 7, 10, 60, 0, 4);
        is("digest() after lap()", x.digest(), before);
        // 0, 1, 0, 1, ...: its step is 1, -1, 1, ..., each second of it one and the same, the sum with itself 0, 2, 0, 2, ...
        AheadRows y = told(0, 1, 0, 1);
        y.step(0);
        y.each(0, 2, 1);
        y.sum(0, 0);
        y.product(1, 0);
        lapIs(y, 1, 10, 2, 0, 0);
        lapIs(y, 1, 2, 1, 0, 0);
        lapIs(y, 2, 10, 1, 0, 0);
        lapIs(y, 3, 10, 2, 0, 1);
        lapIs(y, 3, 2, 1, 0, 1);
        lapIs(y, 4, 10, 2, 0, 1);
        is("the remainder of -1 in a product", y.by(4, 1, 10), 9);
        says("`m`: the modulus, 2 to 10");
        int[] fibonacci = {3, 8, 6, 20, 24, 16, 12, 24, 60};
        for (int m = 2; m <= 10; m++) is("lap(0, " + m + ", 0)", x.lap(0, m, 0), fibonacci[m - 2]);
        says("`what`: 0: the lap");
        is("lap(1, 8, 0)", x.lap(1, 8, 0), 1);
        is("lap(1, 10, 0)", x.lap(1, 10, 0), 4);
        for (int m = 2; m <= 10; m++) is("lap(3, " + m + ", 0)", x.lap(3, m, 0), m);
        says("1: the head");
        is("lap(0, 10, 1)", x.lap(0, 10, 1), 0);
        is("lap(1, 10, 1)", x.lap(1, 10, 1), 1);
        is("lap(1, 8, 1)", x.lap(1, 8, 1), 3);
        is("lap(2, 8, 1)", x.lap(2, 8, 1), 6);
        says("2: how many of the terms from the head on, as many as the lap says, have the remainder 0");
        // all of them, none, one, and zeros that stand in the head alone
        lapIs(told(0, 0, 0, 0), 0, 10, 1, 0, 1);
        lapIs(told(1, 0, 1, 1), 0, 10, 1, 0, 0);
        lapIs(x, 3, 9, 9, 0, 1);
        lapIs(told(1, 0, 0, 1), 0, 10, 1, 1, 0);
        lapIs(told(0, 0, 1, 1), 0, 10, 1, 2, 1);
        lapIs(told(0, 1, 0, 5), 0, 10, 2, 0, 1);
        lapIs(told(0, 1, 0, 5), 0, 5, 1, 0, 1);
    }

    private void lapRefused() {
        says("Returns the property");
        // the greatest laps: this told row modulo 7 returns after 48 terms with a nought in every 8, k times it after 336
        AheadRows x = told(1, 4, 0, 1, 2, -1, 0, 1);
        x.product(0, 1);
        is("lap(0, 7, 0)", x.lap(0, 7, 0), 48);
        is("lap(2, 7, 0)", x.lap(2, 7, 0), 336);
        is("lap(2, 7, 2)", x.lap(2, 7, 2), 48 + 42 - 6);
        says("UNKNOWN if there is no such row");
        unknownRows("lap(.., 2, 0)", (y, row) -> y.lap(row, 2, 0));
        is("lap(3, 1, 0)", x.lap(3, 1, 0), UNKNOWN);
        is("lap(-1, 2, 3)", x.lap(-1, 2, 3), UNKNOWN);
        says("OUTSIDE if m or what is out of range");
        for (int what = 0; what <= 2; what++) {
            int w = what;
            outside("lap(0, .., " + what + ")", m -> x.lap(0, m, w), 2, 10);
        }
        outside("lap(0, 2, ..)", what -> x.lap(0, 2, what), 0, 2);
        outside("lap(2, 10, ..)", what -> x.lap(2, 10, what), 0, 2);
        is("lap(0, 0, 0)", x.lap(0, 0, 0), OUTSIDE);
        is("lap(0, 1, 3)", x.lap(0, 1, 3), OUTSIDE);
    }

    private void least() {
        section("Promise 11");
        says("Returns the linear complexity of a row modulo a prime, or one of its numbers");
        AheadRows x = of("t1101;t0000;t3013;t0001;t0010;t2a01;*50;*56");
        long before = x.digest();
        leastIs(x, 0, 7, 2, 1, 1);
        leastIs(x, 5, 7, 2, 2, 6);
        leastIs(x, 6, 7, 4, 2, 1, 5, 6);
        leastIs(x, 7, 7, 6, 3, 0, 2, 0, 3, 1);
        is("digest() after least()", x.digest(), before);
        // a step, an each and a sum: 1, -1, 1, ...; the squares of Fibonacci's roots; (x^2 - x - 1)(x - 3)
        AheadRows z = told(0, 1, 0, 1, 1, 1, 0, 1, 3, 0, 1, 3);
        z.step(0);
        z.each(1, 2, 1);
        z.sum(1, 2);
        leastIs(z, 3, 7, 1, 6);
        leastIs(z, 4, 7, 2, 3, 6);
        leastIs(z, 5, 7, 3, 4, 5, 4);
        says("`p`: the prime, 2, 3, 5 or 7");
        leastIs(x, 2, 2, 1, 1);
        leastIs(x, 2, 3, 1, 0);
        leastIs(x, 2, 5, 1, 3);
        leastIs(x, 2, 7, 1, 3);
        says("`what`: 0: L");
        is("least(1, 2, 0)", x.least(1, 2, 0), 0);
        is("least(3, 5, 0)", x.least(3, 5, 0), 2);
        is("least(4, 5, 0)", x.least(4, 5, 0), 1);
        is("L of 16", of("t3332;tabbc;*11;*20;+30;+12;*34;*54").least(7, 5, 0), 16);
        says("1 to 8: the number G1 to G8 (0 if it is beyond GL)");
        leastIs(x, 1, 2, 0, 0, 0, 0, 0, 0, 0, 0, 0);
        leastIs(x, 0, 5, 2, 1, 1, 0, 0, 0, 0, 0, 0);
        leastIs(of("t2aa0;ta01b;tbb23;*20;*33;+40"), 5, 3, 8, 1, 2, 2, 1, 2, 0, 1, 2);
        says("Returns that number");
        // between a great complexity and a small one nothing is left over
        is("L of a long one", of("t0506;t4436;t2444;*01;*23;+40").least(5, 7, 0), 10);
        AheadRows y = of("t0506;t4436;t2444;*01;*23;+40;t0000;t1055");
        is("L of a long one", y.least(5, 7, 0), 10);
        leastIs(y, 6, 7, 0);
        leastIs(y, 7, 7, 1, 1);
    }

    private void leastRefused() {
        says("UNKNOWN if there is no such row");
        unknownRows("least(.., 2, 0)", (y, row) -> y.least(row, 2, 0));
        AheadRows x = of("t0506;t4436;t2444;*01;*23;+40");
        is("least(6, 4, 0)", x.least(6, 4, 0), UNKNOWN);
        is("least(-1, 2, 9)", x.least(-1, 2, 9), UNKNOWN);
        says("OUTSIDE if p or what is out of range");
        for (int p : new int[] {LOW, -7, -2, 0, 1, 4, 6, 8, 9, 10, 11, 13, HIGH}) {
            is("least(0, " + p + ", 0)", x.least(0, p, 0), OUTSIDE);
            is("least(5, " + p + ", 1)", x.least(5, p, 1), OUTSIDE);
        }
        for (int p : new int[] {2, 3, 5, 7}) {
            outside("least(0, " + p + ", ..)", what -> x.least(0, p, what), 0, 8);
            outside("least(5, " + p + ", ..)", what -> x.least(5, p, what), 0, 8);
        }
        is("least(0, 4, 9)", x.least(0, 4, 9), OUTSIDE);
        says("NONE if what is not 0 and L is above 8");
        AheadRows nine = of("t5144;t6422;t2526;*01;*23;+40");
        is("L of 9", nine.least(5, 7, 0), 9);
        for (int what = 1; what <= 8; what++) is("number " + what + " with L 9", nine.least(5, 7, what), NONE);
        AheadRows eight = of("t2aa0;ta01b;tbb23;*20;*33;+40");
        is("L of 8", eight.least(5, 3, 0), 8);
        for (int what = 1; what <= 8; what++) holds("number " + what + " with L 8", eight.least(5, 3, what) != NONE);
        AheadRows most = of("t3332;tabbc;*11;*20;+30;+12;*34;*54");
        is("L of 16", most.least(7, 5, 0), 16);
        is("number 8 with L 16", most.least(7, 5, 8), NONE);
    }
}
