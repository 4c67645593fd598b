/** Every told row modulo 2 to 10: its lap and its head are those of its states, which cannot be missed. */
final class RoundsTest {
    private static final Due DUE = new Due("RoundsTest");

    public static void main(String[] args) {
        for (int m = 2; m <= 10; m++) {
            for (int c = 0; c < m; c++) {
                for (int d = 0; d < m; d++) {
                    allStarts(m, c, d);
                }
            }
        }
        DUE.end();
    }

    private static void allStarts(int m, int c, int d) {
        AheadRows x = new AheadRows();
        x.told(c, d, 0, 0);
        for (int e = 0; e < m; e++) {
            x.put(0, 2, e);
            for (int f = 0; f < m; f++) {
                x.put(0, 3, f);
                one(x, m, new int[] {c, d, e, f});
            }
        }
    }

    private static void one(AheadRows x, int m, int[] told) {
        int[] states = new int[700];
        int[] terms = new int[700];
        int before = told[2], last = told[3];
        for (int k = 0; k < states.length; k++) {
            terms[k] = before;
            states[k] = before * m + last;
            int next = (told[0] * last + told[1] * before) % m;
            before = last;
            last = next;
        }
        // The first state that returns gives a lap of the states, from some number on; the terms may do better.
        int[] seen = new int[m * m];
        java.util.Arrays.fill(seen, -1);
        int k = 0;
        while (seen[states[k]] < 0) {
            seen[states[k]] = k;
            k++;
        }
        int head = seen[states[k]];
        int lap = 1;
        while (!same(terms, head, k - head, lap)) lap++;
        while (head > 0 && terms[head - 1] == terms[head - 1 + lap]) head--;
        String row = "told(" + told[0] + ", " + told[1] + ", " + told[2] + ", " + told[3] + ") modulo " + m;
        DUE.is("lap of " + row, x.lap(0, m, 0), lap);
        DUE.is("head of " + row, x.lap(0, m, 1), head);
        int far = 1000003;
        DUE.is("by of " + row, x.by(0, far, m), terms[head + (far - head) % lap]);
    }

    private static boolean same(int[] terms, int head, int states, int lap) {
        for (int k = head; k < head + states; k++) {
            if (terms[k] != terms[k + lap]) return false;
        }
        return true;
    }
}
