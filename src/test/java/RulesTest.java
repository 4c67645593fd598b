/** Promises 12 to 17, sentence by sentence: rules, roots and noughts. */
final class RulesTest extends Sentences {
    public static void main(String[] args) {
        new RulesTest().run();
    }

    @Override
    void all() {
        rule();
        ruleRefused();
        roots();
        rootsOrder();
        rootsFarthest();
        rootsRefused();
        noughts();
        ends();
        open();
        openRefused();
        meets();
        meetsRefused();
    }

    private static AheadRows rulesOfAllKinds() {
        AheadRows x = told(5, -6, 1, 1, 2, 3, 1, 1);
        x.step(0);
        x.each(0, 3, 4);
        x.sum(0, 1);
        x.product(0, 1);
        x.sum(1, 1);
        x.step(2);
        return x;
    }

    private void rule() {
        section("Promise 12");
        says("Returns the rule of a row");
        AheadRows x = rulesOfAllKinds();
        long before = x.digest();
        ruleIs(x, 0, 2, 5, -6);
        ruleIs(x, 2, 2, 5, -6);
        // roots 2, 3, cubed: 8, 27
        ruleIs(x, 3, 2, 35, -216);
        // roots 2, 3 and 3, -1: (x^2 - 5x + 6)(x^2 - 2x - 3)
        ruleIs(x, 4, 4, 7, -13, -3, 18);
        // roots 6, -2, 9, -3: (x^2 - 4x - 12)(x^2 - 6x - 27)
        ruleIs(x, 5, 4, 10, 15, -180, -324);
        is("digest() after rule()", x.digest(), before);
        says("`what`: 0: its degree");
        int[] degrees = {2, 2, 2, 2, 4, 4, 4};
        for (int row = 0; row < degrees.length; row++) is("rule(" + row + ", 0)", x.rule(row, 0), degrees[row]);
        is("the degree of zeros", told(0, 0, 0, 0).rule(0, 0), 2);
        says("1 to 4: G1 to G4 (0 if it is beyond the degree)");
        for (int row = 0; row < 4; row++) {
            is("rule(" + row + ", 3)", x.rule(row, 3), 0);
            is("rule(" + row + ", 4)", x.rule(row, 4), 0);
        }
        is("rule(4, 4)", x.rule(4, 4), 18);
        says("Returns that number");
        // the greatest numbers: fifth powers of the roots for C and D of 9, and the products of the greatest rules
        AheadRows y = told(9, 9, 0, 0, -9, 9, 0, 0, 9, -9, 0, 0);
        y.each(0, 5, 0);
        y.each(1, 5, 9);
        y.product(0, 0);
        y.product(0, 1);
        y.sum(2, 2);
        ruleIs(y, 3, 2, 95499, 59049);
        ruleIs(y, 4, 2, -95499, 59049);
        ruleIs(y, 5, 4, 81, 1620, 6561, -6561);
        ruleIs(y, 6, 4, -81, 1620, -6561, -6561);
        ruleIs(y, 7, 4, 18, -99, 162, -81);
    }

    private void ruleRefused() {
        says("UNKNOWN if there is no such row");
        unknownRows("rule(.., 0)", (y, row) -> y.rule(row, 0));
        is("rule(8, 5)", of(EIGHT).rule(8, 5), UNKNOWN);
        says("OUTSIDE if what is not 0 to 4");
        AheadRows x = rulesOfAllKinds();
        for (int row = 0; row < 8; row++) {
            int r = row;
            outside("rule(" + row + ", ..)", what -> x.rule(r, what), 0, 4);
        }
        says("STATE if the row has no rule");
        for (int what = 0; what <= 4; what++) is("rule(7, " + what + ") of a step of a step", x.rule(7, what), STATE);
        x.ease(2);
        ruleIs(x, 7, 2, 5, -6);
    }

    private void rootsAre(int c, int d, int... want) {
        AheadRows x = told(c, d, 0, 0);
        for (int what = 0; what <= 4; what++) {
            is("roots(0, " + what + ") for C " + c + ", D " + d, x.roots(0, what), want[what]);
        }
    }

    private void roots() {
        section("Promise 13");
        says("Returns a property of the roots of a told row");
        rootsAre(1, 1, 2, NONE, NONE, 0, 1);
        rootsAre(5, -6, 2, 3, 2, 0, 1);
        rootsAre(2, -5, 0, NONE, NONE, 0, 0);
        AheadRows x = told(5, -6, 3, 9);
        long before = x.digest();
        x.roots(0, 0);
        x.roots(0, 3);
        is("digest() after roots()", x.digest(), before);
        says("`what`: 0: the number of different real roots");
        is("two", told(0, 1, 0, 0).roots(0, 0), 2);
        is("one, which is 0", told(0, 0, 0, 0).roots(0, 0), 1);
        is("one", told(6, -9, 0, 0).roots(0, 0), 1);
        is("none", told(0, -1, 0, 0).roots(0, 0), 0);
        // at the edge: C * C + 4 * D is 4, 0 and -4
        is("two for C 4, D -3", told(4, -3, 0, 0).roots(0, 0), 2);
        is("one for C 4, D -4", told(4, -4, 0, 0).roots(0, 0), 1);
        is("none for C 4, D -5", told(4, -5, 0, 0).roots(0, 0), 0);
        says("1: the greater root, 2: the lesser root, if both are integers (they may be equal)");
        rootsAre(-5, -6, 2, -2, -3, 0, -1);
        rootsAre(1, 6, 2, 3, -2, 0, 1);
        rootsAre(-1, 6, 2, 2, -3, 0, -1);
        rootsAre(7, 0, 2, 7, 0, 0, 1);
        rootsAre(-9, 0, 2, 0, -9, 0, -1);
        rootsAre(6, -9, 1, 3, 3, 0, 0);
        rootsAre(-2, -1, 1, -1, -1, 0, 0);
        rootsAre(0, 0, 1, 0, 0, 0, 0);
        rootsAre(8, 9, 2, 9, -1, 0, 1);
        rootsAre(-8, 9, 2, 1, -9, 0, -1);
        rootsAre(9, -8, 2, 8, 1, 0, 1);
        wholeRoots();
    }

    /** Every told row with integers as roots, from the roots. */
    private void wholeRoots() {
        boolean[][] whole = new boolean[19][19];
        for (int a = -9; a <= 9; a++) {
            for (int b = -9; b <= a; b++) {
                int c = a + b, d = -a * b;
                if (c < -9 || c > 9 || d < -9 || d > 9) continue;
                whole[c + 9][d + 9] = true;
                AheadRows x = told(c, d, 0, 0);
                is("the greater root for C " + c + ", D " + d, x.roots(0, 1), a);
                is("the lesser root for C " + c + ", D " + d, x.roots(0, 2), b);
            }
        }
        for (int c = -9; c <= 9; c++) {
            for (int d = -9; d <= 9; d++) {
                if (whole[c + 9][d + 9]) continue;
                AheadRows x = told(c, d, 0, 0);
                is("the greater root for C " + c + ", D " + d, x.roots(0, 1), NONE);
                is("the lesser root for C " + c + ", D " + d, x.roots(0, 2), NONE);
            }
        }
    }

    private void rootsOrder() {
        says("3: its order if it is degenerate, 0 if not");
        is("roots 1 and -1", told(0, 1, 0, 0).roots(0, 3), 2);
        is("roots i and -i", told(0, -1, 0, 0).roots(0, 3), 2);
        is("third roots of 1", told(-1, -1, 0, 0).roots(0, 3), 3);
        is("sixth roots of 1, of which the third powers are equal", told(1, -1, 0, 0).roots(0, 3), 3);
        is("roots 1 + i and 1 - i", told(2, -2, 0, 0).roots(0, 3), 4);
        is("the quotient is a sixth root of 1", told(3, -3, 0, 0).roots(0, 3), 6);
        is("Fibonacci", told(1, 1, 0, 0).roots(0, 3), 0);
        is("equal roots", told(2, -1, 0, 0).roots(0, 3), 0);
        is("a root of 0", told(1, 0, 0, 0).roots(0, 3), 0);
        is("both roots 0", told(0, 0, 0, 0).roots(0, 3), 0);
        is("all noughts, but degenerate", told(0, 9, 0, 0).roots(0, 3), 2);
        for (int c = -9; c <= 9; c++) {
            AheadRows x = told(c, 0, 0, 0);
            for (int d = -9; d <= 9; d++) {
                x.put(0, 1, d);
                is("the order for C " + c + ", D " + d, x.roots(0, 3), Model.order(c, d));
            }
        }
    }

    private void rootsFarthest() {
        says("4: 1 if a real root is farther from 0 than the other root, and above 0");
        is("3 and 2", told(5, -6, 0, 0).roots(0, 4), 1);
        is("3 and -2", told(1, 6, 0, 0).roots(0, 4), 1);
        is("1 and 0", told(1, 0, 0, 0).roots(0, 4), 1);
        is("Fibonacci", told(1, 1, 0, 0).roots(0, 4), 1);
        says("-1 if there is such a root below 0");
        is("-3 and -2", told(-5, -6, 0, 0).roots(0, 4), -1);
        is("-3 and 2", told(-1, 6, 0, 0).roots(0, 4), -1);
        is("-1 and 0", told(-1, 0, 0, 0).roots(0, 4), -1);
        says("0 if there is none");
        is("3 and -3", told(0, 9, 0, 0).roots(0, 4), 0);
        is("equal roots", told(6, -9, 0, 0).roots(0, 4), 0);
        is("equal roots below 0", told(-6, -9, 0, 0).roots(0, 4), 0);
        is("both 0", told(0, 0, 0, 0).roots(0, 4), 0);
        is("complex roots", told(1, -1, 0, 0).roots(0, 4), 0);
        is("complex roots", told(-5, -9, 0, 0).roots(0, 4), 0);
    }

    private void rootsRefused() {
        says("Returns the property");
        AheadRows x = of("t1101;d0;+00;*00;e020");
        is("roots(0, 0)", x.roots(0, 0), 2);
        x.put(0, 1, -1);
        is("roots(0, 0) after put", x.roots(0, 0), 0);
        says("UNKNOWN if there is no such row");
        unknownRows("roots(.., 0)", (y, row) -> y.roots(row, 0));
        is("roots(5, 5)", x.roots(5, 5), UNKNOWN);
        says("OUTSIDE if what is not 0 to 4");
        for (int row = 0; row < 5; row++) {
            int r = row;
            outside("roots(" + row + ", ..)", what -> x.roots(r, what), 0, 4);
        }
        says("STATE if the row is not told");
        for (int row = 1; row < 5; row++) {
            for (int what = 0; what <= 4; what++) is("roots(" + row + ", " + what + ")", x.roots(row, what), STATE);
        }
        x.ease(1);
        is("roots(1, 0) of an eased row", x.roots(1, 0), 0);
        says("NONE if what is 1 or 2 and the roots are not integers");
        for (int[] n : new int[][] {{1, 1}, {0, 2}, {0, -1}, {9, 9}, {3, -3}}) {
            AheadRows y = told(n[0], n[1], 0, 0);
            is("the greater of no integers", y.roots(0, 1), NONE);
            is("the lesser of no integers", y.roots(0, 2), NONE);
            for (int what : new int[] {0, 3, 4}) holds("what " + what + " of no integers", y.roots(0, what) != NONE);
        }
    }

    private void noughts() {
        section("Promise 14");
        says("Returns which of the terms 0 to 23 are 0");
        AheadRows x = told(2, -1, 0, 1, 2, -1, -23, -22, 2, -1, -24, -23, 1, 1, 1, 1, 0, 1, 0, 1);
        x.step(3);
        x.product(0, 1);
        x.each(4, 2, 1);
        is("noughts of k", x.noughts(0), 1);
        is("noughts of k - 23", x.noughts(1), 1 << 23);
        is("noughts of k - 24", x.noughts(2), 0);
        is("noughts of Fibonacci from 1 on", x.noughts(3), 0);
        is("noughts of 0, 1, 0, 1, ...", x.noughts(4), 0x555555);
        is("noughts of a step", x.noughts(5), 1);
        is("noughts of a product", x.noughts(6), 1 << 23 | 1);
        is("noughts of an each", x.noughts(7), 0);
        says("(a term that is far is not)");
        // 0, 1, 0, 9, ...: 9^10 is term 21 and far, and so is the 0 behind it
        AheadRows y = told(0, 9, 0, 1, 0, 0, 0, 0);
        y.product(0, 1);
        y.step(0);
        is("noughts up to a far term", y.noughts(0), 0x155555);
        is("noughts of 0 times it", y.noughts(2), 0x1FFFFF);
        says("Returns the set of their numbers, bit k for term k");
        is("noughts of zeros", y.noughts(1), 0xFFFFFF);
        for (int k = 0; k <= 23; k++) is("noughts of term - " + k, told(2, -1, -k, 1 - k).noughts(0), 1 << k);
        says("UNKNOWN if there is no such row");
        unknownRows("noughts", AheadRows::noughts);
    }

    private void ends() {
        section("Promise 15");
        says("Finds the smallest modulus, 2 to 10, modulo which no term from the head on has the remainder 0");
        int[][] constant = {{1, 2}, {999, 2}, {4, 3}, {6, 4}, {12, 5}, {60, 7}, {360, 7}, {420, 8}, {840, 9}, {504, 5}};
        for (int[] pair : constant) is("ends of " + pair[0], told(1, 0, pair[0], pair[0]).ends(0), pair[1]);
        // 504 is a multiple of all but 5 and 10, and 5 of 5
        is("ends of 504, 5, 504, ...", told(0, 1, 504, 5).ends(0), 10);
        is("noughts in the head alone", told(1, 0, 0, 1).ends(0), 2);
        is("noughts in the head alone", told(0, 1, 1, 0).ends(0), NONE);
        is("ends of powers of 2", told(2, 0, 1, 2).ends(0), 3);
        is("ends of powers of 6", told(6, 0, 1, 6).ends(0), 5);
        // a step of 4, -4, ..., an each of 504 and one of 5, a sum of 4, 5, ...
        AheadRows all = told(0, 1, 1, 5, 0, 1, 504, 5, 0, 1, 1, 2, 1, 0, 3, 3);
        all.step(0);
        all.each(1, 2, 0);
        all.each(1, 2, 1);
        all.sum(2, 3);
        is("ends of a step", all.ends(4), 3);
        is("ends of an each", all.ends(5), 5);
        is("ends of another each", all.ends(6), 2);
        is("ends of a sum", all.ends(7), 3);
        says("Returns the modulus");
        AheadRows x = told(2, 0, 3, 6);
        is("ends of 3 * 2^k", x.ends(0), 5);
        x.put(0, 2, 5);
        x.put(0, 3, 10);
        is("ends of 5 * 2^k", x.ends(0), 3);
        says("UNKNOWN if there is no such row");
        unknownRows("ends", AheadRows::ends);
        says("NONE if there is none");
        is("ends of zeros", told(0, 0, 0, 0).ends(0), NONE);
        is("ends of what is zeros from its head on", told(0, 0, 1, 1).ends(0), NONE);
        is("ends of k", told(2, -1, 0, 1).ends(0), NONE);
        AheadRows y = told(1, 0, 840, 840, 1, 0, 3, 3);
        y.product(0, 1);
        is("ends of 2520", y.ends(2), NONE);
    }

    private void open() {
        section("Promise 16");
        says("Tells at which numbers from 0 to 999 a term has the remainder 0 modulo each of 2 to 10");
        AheadRows x = told(2, -1, 0, 1, 2, -1, -999, -998, 1, 0, 840, 840, 1, 0, 3, 3);
        x.product(2, 3);
        x.product(2, 0);
        x.each(0, 5, 9);
        is("open of k", x.open(0, 0), 1);
        is("open of k - 999", x.open(1, 0), 1);
        is("open of 2520", x.open(4, 0), 1000);
        is("open of 5 * k + 9", x.open(6, 0), 0);
        // a multiple of 2520 lacks none, and where one modulus is lacking, none is open
        for (int lacking : new int[] {360, 504, 280, 840, 315, 630}) is("open of " + lacking, told(1, 0, lacking, lacking).open(0, 0), 0);
        AheadRows lacks8 = told(1, 0, 630, 630);
        lacks8.sum(0, 0);
        is("open of 1260", lacks8.open(1, 0), 0);
        // a step of one and the same, an each that takes the noughts, a sum of opposite terms
        AheadRows all = told(1, 0, 1, 1, 0, 1, 0, 1, 1, 0, -1, -1);
        all.step(0);
        all.each(1, 2, 0);
        all.each(1, 2, 1);
        all.sum(0, 2);
        is("open of a step", all.open(3, 0), 1000);
        is("open of an each", all.open(4, 0), 1000);
        is("open of another each", all.open(5, 0), 0);
        is("open of a sum", all.open(6, 0), 1000);
        says("`what`: 0: how many such numbers there are");
        is("open of zeros", told(0, 0, 0, 0).open(0, 0), 1000);
        is("open of 840 * k", x.open(5, 0), 334);
        is("open of 0, 0, 1, ... by its head", told(0, 1, 0, 1).open(0, 0), 500);
        is("open of a row with its only nought at 0", told(1, 0, 0, 1).open(0, 0), 1);
        // 2520 divides each 120th of Fibonacci, of which all but the first are far
        AheadRows fibonacci = told(1, 1, 0, 1);
        is("open of Fibonacci", fibonacci.open(0, 0), 9);
        says("1: the greatest one");
        is("the greatest of zeros", told(0, 0, 0, 0).open(0, 1), 999);
        is("the greatest of k", x.open(0, 1), 0);
        is("the greatest of k - 999", x.open(1, 1), 999);
        is("the greatest of 840 * k", x.open(5, 1), 999);
        is("the greatest of Fibonacci", fibonacci.open(0, 1), 960);
        is("the greatest of 0, 1, 0, ...", told(0, 1, 0, 1).open(0, 1), 998);
        // k - 1000 is 0 at 1000, which is not asked for
        AheadRows y = told(2, -1, -999, -998, 1, 0, -1, -1);
        y.sum(0, 1);
        is("open of k - 1000", y.open(2, 0), 0);
        is("the greatest of k - 1000", y.open(2, 1), NONE);
    }

    private void openRefused() {
        says("Returns that number");
        AheadRows x = told(1, 0, 1, 1, 0, 0, 0, 0);
        is("open(0, 0)", x.open(0, 0), 0);
        is("open(1, 0)", x.open(1, 0), 1000);
        says("UNKNOWN if there is no such row");
        unknownRows("open(.., 0)", (y, row) -> y.open(row, 0));
        is("open(2, 2)", x.open(2, 2), UNKNOWN);
        says("OUTSIDE if what is out of range");
        outside("open(0, ..)", what -> x.open(0, what), 0, 1);
        outside("open(1, ..)", what -> x.open(1, what), 0, 1);
        says("NONE if what is 1 and there is none");
        is("open(0, 1)", x.open(0, 1), NONE);
        holds("open(0, 0) is no NONE", x.open(0, 0) != NONE);
        holds("open(1, 1) is no NONE", x.open(1, 1) != NONE);
    }

    private void meets() {
        section("Promise 17");
        says("Finds the smallest number k such that the terms k of two rows have the same remainder");
        AheadRows x = told(1, 0, 1, 1, 2, -1, 0, 1, 1, 0, 2, 2, 0, 0, 0, 1, 2, -1, -6, -5, 1, 1, 0, 1);
        x.each(1, 1, 2);
        x.each(5, 1, 2);
        is("1 and k modulo 10", x.meets(0, 1, 10), 1);
        is("2 and k modulo 10", x.meets(2, 1, 10), 2);
        is("in the head alone", x.meets(3, 0, 10), 1);
        is("1 and k - 6 modulo 10", x.meets(0, 4, 10), 7);
        is("1 and k - 6 modulo 7", x.meets(4, 0, 7), 0);
        is("k + 2 and Fibonacci(k + 2) modulo 10", x.meets(6, 7, 10), 3);
        // the laps 16 and 7 of Fibonacci and of k modulo 7 meet late
        AheadRows y = told(1, 1, 0, 1, 2, -1, 3, 4);
        int late = 0;
        int before = 0, last = 1;
        while (before != (late + 3) % 7) {
            int next = (before + last) % 7;
            before = last;
            last = next;
            late++;
        }
        is("Fibonacci and k + 3 modulo 7", y.meets(0, 1, 7), late);
        is("the other way round", y.meets(1, 0, 7), late);
        // a step of 4, -4, ..., its sum with 1, 5, 1, ... and an each of that: 5, 1, ... and 1, 1, ...
        AheadRows all = told(0, 1, 1, 5, 1, 0, -4, -4, 1, 0, 1, 1);
        all.step(0);
        all.sum(0, 3);
        all.each(4, 2, 1);
        all.product(3, 3);
        is("a step and -4", all.meets(3, 1, 10), 1);
        is("a sum and 1", all.meets(4, 2, 10), 1);
        is("an each and 1", all.meets(5, 2, 10), 0);
        is("a product of 16, 16, ... and -4 modulo 10", all.meets(6, 1, 10), 0);
        is("a product of 16, 16, ... and -4 modulo 9", all.meets(6, 1, 9), NONE);
        says("`other`: a row, possibly the same");
        for (int m = 2; m <= 10; m++) is("a row and itself", x.meets(5, 5, m), 0);
        says("`m`: the modulus, 2 to 10");
        is("1 and 2 modulo 2", x.meets(0, 2, 2), NONE);
        is("1 and k modulo 2", x.meets(0, 1, 2), 1);
        is("2 and k modulo 10", x.meets(2, 1, 10), 2);
    }

    private void meetsRefused() {
        says("Returns k");
        AheadRows x = told(2, -1, 0, 1, 0, 0, 0, 0, 2, -1, 1, 2, 1, 0, 1, 1);
        x.product(0, 2);
        is("k and 0", x.meets(0, 1, 10), 0);
        is("k + 1 and 0 modulo 10: the last term of a lap", x.meets(2, 1, 10), 9);
        says("UNKNOWN if there is no such row");
        unknownRows("meets(.., 0, 2)", (y, row) -> y.meets(row, 0, 2));
        unknownRows("meets(0, .., 2)", (y, row) -> y.meets(0, row, 2));
        is("meets(5, 0, 11)", x.meets(5, 0, 11), UNKNOWN);
        is("meets(0, -1, 1)", x.meets(0, -1, 1), UNKNOWN);
        says("OUTSIDE if m is out of range");
        outside("meets(0, 1, ..)", m -> x.meets(0, 1, m), 2, 10);
        outside("meets(1, 3, ..)", m -> x.meets(1, 3, m), 2, 10);
        says("NONE if there is no such k at all");
        for (int m = 2; m <= 10; m++) {
            is("0 and 1 modulo " + m, x.meets(1, 3, m), NONE);
            is("k and k + 1 modulo " + m, x.meets(0, 2, m), NONE);
        }
        is("k * (k + 1) and 1 modulo 2", x.meets(4, 3, 2), NONE);
        is("k * (k + 1) and 1 modulo 3", x.meets(4, 3, 3), NONE);
        // modulo 7 a square is minus a square only if both are 0: here if 8 divides k + 1 and 7 does, far behind both laps
        AheadRows y = told(1, 4, 1, 1, 2, -1, 1, 2, 2, -1, -1, -2);
        y.product(0, 0);
        y.product(1, 2);
        is("a meeting behind both laps", y.meets(3, 4, 7), 55);
        lateMeetings();
    }

    /** Rows that meet for the first time near the end of what all rows have in common; modulo 8 none meet later. */
    private void lateMeetings() {
        lateMeeting("t1110;t0110;t0001;*10;*02;+30;*55;+25", 7, 1, 2, 7);
        lateMeeting("t2111;t2022;t2201;+20;*03;+40;+34;*56", 7, 1, 3, 24);
        lateMeeting("t0203;t3101;t2132;*11;*11;*11;*22;+50", 7, 2, 4, 15);
        lateMeeting("t4114;t3222;t1210;*00;*03;+33;+12;*66", 7, 5, 5, 119);
        lateMeeting("t0241;t3510;t5124;t2410;*00;*42;+12;*52", 6, 0, 6, 25);
        lateMeeting("t3440;t2662;t5453;+20;+33;*41;+31;*55", 6, 7, 7, 334);
        lateMeeting("t7317;t0621;t2574;*00;+13;+42;*34;*02", 4, 2, 8, 29);
        lateMeeting("t8431;t4501;t8516;t3041;+23;+20;*51;+66", 7, 4, 9, 74);
    }

    private void lateMeeting(String text, int one, int other, int m, int k) {
        is("the first meeting of \"" + text + "\" modulo " + m, of(text).meets(one, other, m), k);
        AheadRows x = of(text);
        AheadRows y = of(text);
        for (int i = 0; i <= k; i++) {
            is("same remainders at " + i + " modulo " + m, x.by(one, i, m) == y.by(other, i, m) ? 1 : 0, i == k ? 1 : 0);
        }
    }
}
