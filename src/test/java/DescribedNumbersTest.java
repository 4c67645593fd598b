import java.math.BigInteger;

/** The section "Description" on remainders, laps, complexities, roots and rules, sentence by sentence. */
final class DescribedNumbersTest extends Sentences {
    private static final int[] PRIMES = {2, 3, 5, 7};

    public static void main(String[] args) {
        new DescribedNumbersTest().run();
    }

    @Override
    void all() {
        remainders();
        farRemainders();
        laps();
        heads();
        complexities();
        complexityOfAllTerms();
        uniqueNumbers();
        roots();
        rules();
        rulesOfTwo();
        rulesOfFour();
        degenerate();
        orders();
    }

    private void remainders() {
        section("Description");
        says("The remainder of a term modulo m (2 to 10) is from 0 to m - 1");
        AheadRows x = told(2, -1, -50, -49);
        for (int m = 2; m <= 10; m++) {
            for (int k = 0; k <= 50; k += 5) is("by(0, " + k + ", " + m + ")", x.by(0, k, m), Math.floorMod(k - 50, m));
            is("the remainder of -1", x.by(0, 49, m), m - 1);
        }
        x.told(1, 0, -1, -1);
        x.product(0, 1);
        x.sum(0, 1);
        x.step(2);
        x.each(0, 3, 1);
        for (int m = 2; m <= 10; m++) {
            is("the remainder of a product of -1 and -1", x.by(2, 49, m), 1);
            is("the remainder of a sum of -1 and -50", x.by(3, 0, m), Math.floorMod(-51, m));
            is("the remainder of a step down", x.by(4, 0, m), m - 1);
            is("the remainder of an each", x.by(5, 0, m), Math.floorMod(-49, m));
        }
        is("m of 1", x.by(0, 0, 1), OUTSIDE);
        is("m of 11", x.by(0, 0, 11), OUTSIDE);
    }

    private void farRemainders() {
        says("it is that of the true term, also if the term is far");
        AheadRows x = told(9, -7, 999, -998, 0, 0, 0, 0);
        x.product(0, 0);
        x.product(0, 1);
        x.sum(0, 2);
        x.step(2);
        x.each(2, 5, 9);
        BigInteger before = BigInteger.valueOf(999), last = BigInteger.valueOf(-998);
        BigInteger[] terms = new BigInteger[300];
        for (int k = 0; k < terms.length; k++) {
            terms[k] = before;
            BigInteger next = last.multiply(BigInteger.valueOf(9)).subtract(before.multiply(BigInteger.valueOf(7)));
            before = last;
            last = next;
        }
        is("term(0, 50)", x.term(0, 50), FAR);
        for (int m = 2; m <= 10; m++) {
            for (int k : new int[] {50, 201, 298}) {
                BigInteger square = terms[k].pow(2);
                is("by(0, " + k + ", " + m + ")", x.by(0, k, m), of(terms[k], m));
                is("by(2, " + k + ", " + m + ")", x.by(2, k, m), of(square, m));
                is("by(3, " + k + ", " + m + ")", x.by(3, k, m), 0);
                is("by(4, " + k + ", " + m + ")", x.by(4, k, m), of(square.add(terms[k]), m));
                is("by(5, " + k + ", " + m + ")", x.by(5, k, m), of(terms[k + 1].pow(2).subtract(square), m));
            }
            is("by(6, 50, " + m + ")", x.by(6, 50, m), of(terms[259].pow(2), m));
        }
    }

    private static int of(BigInteger term, int m) {
        return term.mod(BigInteger.valueOf(m)).intValue();
    }

    private void laps() {
        says("The lap of a row modulo m is its period: the smallest p, 1 or more, for which there is a number h such that "
            + "for each k from h on the terms k and k + p have the same remainder");
        for (int m = 2; m <= 10; m++) {
            is("the lap of one and the same", told(1, 0, 5, 5).lap(0, m, 0), 1);
            is("the lap of zeros from 2 on", told(0, 0, 1, 2).lap(0, m, 0), 1);
            is("the lap of k", told(2, -1, 0, 1).lap(0, m, 0), m);
            is("the lap of 0, 1, 0, 1, ...", told(0, 1, 0, 1).lap(0, m, 0), 2);
            is("the lap of 1, -1, ...", told(-1, 0, 1, -1).lap(0, m, 0), m == 2 ? 1 : 2);
            is("the lap of 0, 1, 1, 0, -1, -1, ...", told(1, -1, 0, 1).lap(0, m, 0), m == 2 ? 3 : 6);
        }
        // a period of the states may be longer than that of the terms: 2, 2, 2, ... modulo 4 with C 3
        is("the lap of 2, 6, 18, ... modulo 4", told(3, 0, 2, 6).lap(0, 4, 0), 1);
        // a sum and a product may have shorter laps than their parts, and longer ones
        AheadRows x = told(1, 1, 0, 1, 1, 1, 0, -1, 2, -1, 0, 1, 0, 1, 0, 1, 0, 1, 1, 0);
        x.sum(0, 1);
        x.product(3, 4);
        x.product(0, 2);
        is("the lap of a row and its opposite", x.lap(5, 10, 0), 1);
        is("the lap of 0 * 1, 1 * 0, ...", x.lap(6, 10, 0), 1);
        is("the lap of k * Fibonacci modulo 7", x.lap(7, 7, 0), 112);
        AheadRows y = told(1, 1, 0, 1);
        y.each(0, 5, 0);
        y.each(0, 3, 1);
        y.step(0);
        is("the lap of each fifth of Fibonacci modulo 5", y.lap(1, 5, 0), 1);
        is("the lap of each fifth of Fibonacci modulo 10: 0, 5, 5, ...", y.lap(1, 10, 0), 3);
        is("the lap of each third of Fibonacci modulo 2", y.lap(2, 2, 0), 1);
        is("the lap of a step", y.lap(3, 10, 0), 60);
    }

    private void heads() {
        says("The head is the smallest such h for this p");
        is("the head of Fibonacci", told(1, 1, 0, 1).lap(0, 10, 1), 0);
        is("the head of 1, 2, 2, ...", told(1, 0, 1, 2).lap(0, 10, 1), 1);
        is("the head of 2, 2, 2, ...", told(1, 0, 2, 2).lap(0, 10, 1), 0);
        is("the head of 1, 2, 0, 0, ...", told(0, 0, 1, 2).lap(0, 10, 1), 2);
        is("the head of 1, 2, 0, 0, ... modulo 2", told(0, 0, 1, 2).lap(0, 2, 1), 1);
        is("the head of 1, 0, 0, ...", told(0, 0, 1, 0).lap(0, 10, 1), 1);
        is("the head of 0, 0, 0, ...", told(0, 0, 0, 0).lap(0, 10, 1), 0);
        is("the head of 1, 1, 2, 2, 4, 4, 0, ... modulo 8", told(0, 2, 1, 1).lap(0, 8, 1), 6);
        is("the head of 1, 0, 2, 0, 4, 0, 0, ... modulo 8", told(0, 2, 1, 0).lap(0, 8, 1), 5);
        is("the head of 1, 1, 3, 3, 0, ... modulo 9", told(0, 3, 1, 1).lap(0, 9, 1), 4);
        is("the head of 1, 1, 2, 2, 0, ... modulo 4", told(0, 2, 1, 1).lap(0, 4, 1), 4);
        is("the head of powers of 2 modulo 6", told(2, 0, 1, 2).lap(0, 6, 1), 1);
        is("the head of powers of 2 modulo 8", told(2, 0, 1, 2).lap(0, 8, 1), 3);
        // an each skips a head, a product with zeros loses it, a step keeps it
        AheadRows x = told(0, 2, 1, 1, 0, 0, 0, 0, 0, 2, -1, -1);
        x.each(0, 1, 5);
        x.each(0, 1, 9);
        x.product(0, 1);
        x.sum(0, 2);
        x.step(0);
        is("the head of an each", x.lap(3, 8, 1), 1);
        is("the head of an each behind it", x.lap(4, 8, 1), 0);
        is("the head of zeros", x.lap(5, 8, 1), 0);
        is("the head of a row and its opposite", x.lap(6, 8, 1), 0);
        is("the head of a step", x.lap(7, 8, 1), 6);
    }

    private void complexities() {
        says("The linear complexity of a row modulo a prime p is the smallest L from 0 to 16 for which there are numbers "
            + "G1, G2, ..., GL, each from 0 to p - 1");
        for (int p : PRIMES) {
            is("L of zeros", told(0, 0, 0, 0).least(0, p, 0), 0);
            is("L of a multiple of 210", told(1, 0, 210, 210).least(0, p, 0), 0);
            is("L of ones", told(1, 0, 1, 1).least(0, p, 0), 1);
            is("L of 1, 0, 0, ...", told(0, 0, 1, 0).least(0, p, 0), 1);
            is("L of 0, 1, 0, 0, ...", told(0, 0, 0, 1).least(0, p, 0), 2);
            is("L of 1, 1, 0, 0, ...", told(0, 0, 1, 1).least(0, p, 0), 2);
            is("G1 of -1, 1, -1, ...", told(-1, 0, -1, 1).least(0, p, 1), p - 1);
        }
        // noughts up to term 14 and then another number: nothing explains the last term
        AheadRows x = of("t3332;tabbc;*11;*20;+30;+12;*34;*54");
        for (int k = 0; k <= 15; k++) is("by(7, " + k + ", 5) is 0", x.by(7, k, 5) == 0 ? 1 : 0, k < 15 ? 1 : 0);
        is("L of them", x.least(7, 5, 0), 16);
        is("L of 15", of("t1120;taa13;+01;+01;+10;*34;*55;+24").least(6, 5, 0), 15);
    }

    /** That the numbers explain the terms L to 15, and that for small primes no fewer numbers do. */
    private void explains(String text, int row, int p) {
        AheadRows x = of(text);
        int[] terms = new int[16];
        for (int k = 0; k < 16; k++) terms[k] = x.by(row, k, p);
        int length = x.least(row, p, 0);
        String name = "\"" + text + "\", row " + row + " modulo " + p;
        holds("L of " + name, length >= 0 && length <= 16);
        if (length <= 8) {
            int[] g = new int[length];
            for (int i = 0; i < length; i++) {
                g[i] = x.least(row, p, i + 1);
                holds("number " + (i + 1) + " of " + name, g[i] >= 0 && g[i] < p);
            }
            holds("the numbers of " + name, fits(terms, g, p));
        }
        // all numbers with fewer places, as long as there are not too many of them
        long tried = 1;
        for (int fewer = 0; fewer < length && tried <= 20000; fewer++, tried *= p) {
            int[] g = new int[fewer];
            boolean found = fits(terms, g, p);
            for (long i = 1; i < tried && !found; i++) {
                for (int j = 0; j < fewer && ++g[j] == p; j++) g[j] = 0;
                found = fits(terms, g, p);
            }
            holds("no " + fewer + " numbers for " + name, !found);
        }
    }

    private static boolean fits(int[] terms, int[] g, int p) {
        for (int k = g.length; k <= 15; k++) {
            int sum = 0;
            for (int i = 0; i < g.length; i++) sum += g[i] * terms[k - 1 - i];
            if ((sum - terms[k]) % p != 0) return false;
        }
        return true;
    }

    private void complexityOfAllTerms() {
        says("such that each of the terms L to 15 is congruent modulo p to G1 times the term before it, "
            + "plus G2 times the term before that, and so on");
        String[] texts = {
            "t1101;t2a01;*01;*12;+03;d4", "t2aa0;ta01b;tbb23;*20;*33;+40", "t5144;t6422;t2526;*01;*23;+40",
            "t0506;t4436;t2444;*01;*23;+40", "t3332;tabbc;*11;*20;+30;+12;*34;*54", "t1120;taa13;+01;+01;+10;*34;*55;+24"};
        for (String text : texts) {
            int rows = text.split(";").length;
            for (int row = 2; row < rows; row++) {
                for (int p : PRIMES) explains(text, row, p);
            }
        }
    }

    private void uniqueNumbers() {
        says("If L is at most 8, these numbers are unique");
        leastIs(of("t2aa0;ta01b;tbb23;*20;*33;+40"), 5, 3, 8, 1, 2, 2, 1, 2, 0, 1, 2);
        leastIs(told(1, 1, 0, 1), 0, 7, 2, 1, 1);
        leastIs(told(0, 0, 0, 1), 0, 7, 2, 0, 0);
        leastIs(told(0, 0, 3, 0), 0, 7, 1, 0);
        // the term 16 would need another number, and is not asked for
        AheadRows x = of("t5144;t6422;t2526;*01;*23;+40");
        is("L of 9", x.least(5, 7, 0), 9);
        is("a number of 9", x.least(5, 7, 1), NONE);
    }

    private void roots() {
        says("The roots of a told row are both solutions (real or complex, possibly equal) of x * x = C * x + D");
        AheadRows real = told(7, 8, 0, 0);
        is("different real ones", real.roots(0, 0), 2);
        is("the greater one", real.roots(0, 1), 8);
        is("the lesser one", real.roots(0, 2), -1);
        AheadRows equal = told(-4, -4, 0, 0);
        is("equal ones", equal.roots(0, 0), 1);
        is("the greater of equal ones", equal.roots(0, 1), -2);
        is("the lesser of equal ones", equal.roots(0, 2), -2);
        AheadRows complex = told(0, -9, 0, 0);
        is("complex ones", complex.roots(0, 0), 0);
        is("the greater of complex ones", complex.roots(0, 1), NONE);
        is("the lesser of complex ones", complex.roots(0, 2), NONE);
    }

    private void rules() {
        says("A rule is a polynomial equation x^n = G1 * x^(n-1) + G2 * x^(n-2) + ... + Gn");
        // the terms of every row with a rule follow it
        AheadRows x = told(3, -5, 2, 7, -2, 1, 4, -3);
        x.step(0);
        x.each(0, 2, 1);
        x.each(1, 5, 9);
        x.sum(0, 1);
        x.product(0, 1);
        x.product(1, 1);
        for (int row = 0; row < 8; row++) {
            int n = x.rule(row, 0);
            int[] g = new int[n];
            for (int i = 0; i < n; i++) g[i] = x.rule(row, i + 1);
            for (int m = 7; m <= 10; m++) {
                long sum = 0;
                for (int i = 0; i < n; i++) sum += (long) g[i] * x.by(row, 9 - i, m);
                is("term 10 of row " + row + " modulo " + m, x.by(row, 10, m), Math.floorMod(sum, (long) m));
            }
        }
        says("n is its degree");
        int[] degrees = {2, 2, 2, 2, 2, 4, 4, 4};
        for (int row = 0; row < 8; row++) is("rule(" + row + ", 0)", x.rule(row, 0), degrees[row]);
        says("These rows have a rule:");
        // and no others: every kind, made of a row that is not told
        AheadRows y = of("t1101;d0;d1;e110;+01;+10;*01;*11");
        for (int row = 0; row < 8; row++) is("rule(" + row + ", 0)", y.rule(row, 0), row < 2 ? 2 : STATE);
        AheadRows z = of("t1101;e010;+00;*00;d1;d2;d3;*10");
        for (int row = 0; row < 8; row++) is("rule(" + row + ", 0)", z.rule(row, 0), new int[] {2, 2, 4, 4, STATE, STATE, STATE, STATE}[row]);
    }

    private void rulesOfTwo() {
        says("a told row, and a step of a told row: x * x = C * x + D");
        for (int[] n : new int[][] {{1, 1}, {0, 0}, {9, 9}, {-9, -9}, {5, -6}}) {
            AheadRows x = told(n[0], n[1], 1, 2);
            x.step(0);
            ruleIs(x, 0, 2, n[0], n[1]);
            ruleIs(x, 1, 2, n[0], n[1]);
        }
        says("an each of a told row: the rule of degree 2 whose roots are the N-th powers of both roots");
        // roots 3 and -2, N from 1 to 5
        int[][] powers = {{1, 6}, {13, -36}, {19, 216}, {97, -1296}, {211, 7776}};
        AheadRows x = told(1, 6, 0, 1);
        for (int n = 1; n <= 5; n++) {
            x.each(0, n, n);
            ruleIs(x, n, 2, powers[n - 1][0], powers[n - 1][1]);
        }
        // complex roots, equal roots, roots of 0: i and -i, 2 and 2, 0 and 7, 0 and 0
        int[][] told = {{0, -1}, {4, -4}, {7, 0}, {0, 0}};
        int[][] squares = {{-2, -1}, {8, -16}, {49, 0}, {0, 0}};
        for (int i = 0; i < told.length; i++) {
            AheadRows y = told(told[i][0], told[i][1], 1, 1);
            y.each(0, 2, 0);
            ruleIs(y, 1, 2, squares[i][0], squares[i][1]);
        }
    }

    /** The rule of degree 4 with these roots. */
    private static int[] ruleWith(int a, int b, int c, int d) {
        return new int[] {4, a + b + c + d, -(a * b + a * c + a * d + b * c + b * d + c * d),
            a * b * c + a * b * d + a * c * d + b * c * d, -(a * b * c * d)};
    }

    private void rulesOfFour() {
        int[][] pairs = {{2, 3}, {3, -1}, {-2, -2}, {0, 5}, {0, 0}, {9, -1}, {-9, 1}};
        says("a sum of two told rows: the rule of degree 4 whose roots are the four roots of both");
        for (int[] a : pairs) {
            for (int[] b : pairs) {
                AheadRows x = told(a[0] + a[1], -a[0] * a[1], 1, 2, b[0] + b[1], -b[0] * b[1], 3, 4);
                x.sum(0, 1);
                ruleIs(x, 2, ruleWith(a[0], a[1], b[0], b[1]));
            }
        }
        AheadRows same = told(1, 1, 0, 1);
        same.sum(0, 0);
        same.product(0, 0);
        ruleIs(same, 1, 4, 2, 1, -2, -1);
        says("a product of two told rows: the rule of degree 4 whose roots are the four products of a root of the one and "
            + "a root of the other one");
        for (int[] a : pairs) {
            for (int[] b : pairs) {
                AheadRows x = told(a[0] + a[1], -a[0] * a[1], 1, 2, b[0] + b[1], -b[0] * b[1], 3, 4);
                x.product(0, 1);
                ruleIs(x, 2, ruleWith(a[0] * b[0], a[0] * b[1], a[1] * b[0], a[1] * b[1]));
            }
        }
        ruleIs(same, 2, 4, 1, 4, 1, -1);
    }

    private void degenerate(String name, int c, int d, int order) {
        AheadRows x = told(c, d, 3, 4);
        is("the order of " + name, x.roots(0, 3), order);
        is("count(2) with " + name, x.count(2), order == 0 ? 0 : 1);
    }

    private void degenerate() {
        says("A told row is degenerate if D is not 0");
        for (int c = -9; c <= 9; c++) degenerate("C " + c + ", D 0", c, 0, 0);
        says("its roots are different");
        degenerate("1 and 1", 2, -1, 0);
        degenerate("-1 and -1", -2, -1, 0);
        degenerate("2 and 2", 4, -4, 0);
        degenerate("-3 and -3", -6, -9, 0);
        says("and for some N greater than 1 the N-th powers of both are equal");
        degenerate("1 and -1", 0, 1, 2);
        degenerate("roots of 7, one above and one below 0", 0, 7, 2);
        degenerate("i and -i", 0, -1, 2);
        degenerate("Fibonacci", 1, 1, 0);
        degenerate("2 and 3", 5, -6, 0);
        degenerate("2 and -3", -1, 6, 0);
        degenerate("1 + 2i and 1 - 2i", 2, -5, 0);
        degenerate("C 9, D -9", 9, -9, 0);
    }

    private void orders() {
        says("the smallest such N is its order");
        for (int sign = -1; sign <= 1; sign += 2) {
            for (int c = 1; c <= 3; c++) degenerate("C " + sign * c + ", D " + -c * c, sign * c, -c * c, 3);
            for (int c = 2; c <= 4; c += 2) degenerate("C " + sign * c + ", D " + -c * c / 2, sign * c, -c * c / 2, 4);
            degenerate("C " + sign * 3 + ", D -3", sign * 3, -3, 6);
        }
        for (int d = -9; d <= 9; d++) degenerate("C 0, D " + d, 0, d, d == 0 ? 0 : 2);
        // these and no others
        int found = 0;
        for (int c = -9; c <= 9; c++) {
            AheadRows x = told(c, 0, 0, 0);
            for (int d = -9; d <= 9; d++) {
                x.put(0, 1, d);
                if (x.roots(0, 3) != 0) found++;
            }
        }
        is("how many pairs of C and D are degenerate", found, 6 + 4 + 2 + 18);
    }
}
