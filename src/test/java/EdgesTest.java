import java.util.ArrayList;
import java.util.List;

/**
 * Every method with every choice of arguments from the edges of their ranges (of told any two at a time), in objects
 * that are new, full, emptied and between: the answers are Model's, and so is all that the object tells afterwards.
 */
final class EdgesTest {
    private static final Due DUE = new Due("EdgesTest");
    private static final int LOW = Integer.MIN_VALUE, HIGH = Integer.MAX_VALUE;
    private static final int[] ROW = {LOW, -1, 0, 1, 2, 4, 7, 8, HIGH};
    private static final int[] WHAT = {LOW, -1, 0, 1, 2, 3, 4, 5, 6, 7, 8, 9, HIGH};
    private static final int[] MODULUS = {LOW, -1, 0, 1, 2, 7, 10, 11, HIGH};
    private static final int[] NUMBER = {LOW, -1, 0, 1, 199, 200, 201, HIGH - 1, HIGH};
    private static final int[] FACTOR = {LOW, -10, -9, 0, 9, 10, HIGH};
    private static final int[] START = {LOW, -1000, -999, 0, 999, 1000, HIGH};
    private static final int[] PUT = {LOW, -1000, -999, -10, -9, 0, 9, 10, 999, 1000, HIGH};
    private static final String[] STATES = {"a new object", "one row", "all kinds", "far rows", "full", "emptied", "read since", "typed"};

    public static void main(String[] args) throws ReflectiveOperationException {
        for (String state : STATES) {
            texts(state);
            questions(state);
            changes(state);
            given(state);
        }
        DUE.end();
    }

    private static Pair in(String state) throws ReflectiveOperationException {
        Pair x = new Pair(DUE, state);
        switch (state) {
            case "one row": return x.call("told", 0, 0, 1, 0);
            case "all kinds": return x.type("t1101;t2012;+01;*01;e023;d0;*11;+22").call("rows").call("image").call("drop").call("give", 3);
            case "far rows":
                x.call("told", 9, 9, 999, 999).call("told", -9, 9, -999, 999).call("product", 0, 1).call("each", 2, 5, 9);
                return x.call("sum", 2, 2).call("step", 3).call("image").call("put", 0, 2, 5).call("give", 0).call("give", 1).call("give", 10);
            case "full":
                x.type("t1001;d0").call("rows").call("image");
                while (x.rows() < 8) x.call("product", x.rows() - 1, 0);
                for (int i = 0; i < 8; i++) x.call("give", i * i);
                return x.type("t0000;t0000;t0000;t0000;t0000;t0000;t0000;t000j");
            case "emptied": return x.call("told", 1, 2, 3, 4).call("give", 5).call("image").call("drop").call("forget");
            case "read since": return x.call("told", 1, 2, 3, 4).call("image").type("t2345;e011").call("rows").type("t99");
            case "typed": return x.type("t1101;d0;e159;*21;+30;t0a01").call("give", 2).call("give", 4);
            default: return x;
        }
    }

    /** One call, and then all that the object tells, the image last. */
    private static void one(String state, String method, int... arguments) throws ReflectiveOperationException {
        Pair x = in(state).call(method, arguments).call("digest").call("fault");
        for (int row = 0; row < x.rows(); row++) x.call("by", row, 77, 10).call("term", row, 9).call("rule", row, 0);
        x.call("restore").call("digest").call("rows").call("digest");
    }

    private static void texts(String state) throws ReflectiveOperationException {
        for (int code : new int[] {LOW, -1, 0, 31, 32, 33, 59, 116, 125, 126, 127, 128, 256 + 116, HIGH}) one(state, "letter", code);
        for (String method : new String[] {"blank", "fault", "rows"}) one(state, method);
    }

    /** Questions, many of them to one object, as they change nothing. */
    private static void questions(String state) throws ReflectiveOperationException {
        for (int row : ROW) {
            Pair x = in(state).call("noughts", row).call("ends", row);
            for (int what : WHAT) {
                for (String method : new String[] {"row", "as", "rule", "roots", "open"}) x.call(method, row, what);
            }
            for (int number : NUMBER) x.call("term", row, number);
            x.call("digest");
            Pair y = in(state);
            for (int m : MODULUS) {
                for (int number : NUMBER) y.call("by", row, number, m);
                for (int what : WHAT) y.call("lap", row, m, what);
                for (int other : ROW) y.call("meets", row, other, m);
            }
            y.call("digest");
            Pair z = in(state);
            for (int p = -1; p <= 11; p++) {
                for (int what : WHAT) z.call("least", row, p, what);
            }
            z.call("least", row, LOW, 0).call("least", row, HIGH, 0).call("digest");
        }
    }

    private static void changes(String state) throws ReflectiveOperationException {
        for (int[] n : tellings()) one(state, "told", n);
        for (int row : ROW) {
            one(state, "step", row);
            one(state, "ease", row);
            for (int other : ROW) {
                one(state, "sum", row, other);
                one(state, "product", row, other);
            }
            for (int n : new int[] {LOW, -1, 0, 1, 5, 6, HIGH}) {
                for (int s : new int[] {LOW, -1, 0, 9, 10, HIGH}) one(state, "each", row, n, s);
            }
            for (int what : new int[] {LOW, -1, 0, 1, 2, 3, 4, HIGH}) {
                for (int v : PUT) one(state, "put", row, what, v);
            }
        }
        one(state, "drop");
    }

    /** Any two of the four numbers at their edges, the others 0. */
    private static List<int[]> tellings() {
        List<int[]> all = new ArrayList<>();
        for (int i = 0; i < 4; i++) {
            for (int j = 0; j < i; j++) {
                for (int v : i < 2 ? FACTOR : START) {
                    for (int w : j < 2 ? FACTOR : START) {
                        int[] n = new int[4];
                        n[i] = v;
                        n[j] = w;
                        all.add(n);
                    }
                }
            }
        }
        return all;
    }

    private static void given(String state) throws ReflectiveOperationException {
        for (int v : new int[] {LOW, -100, -99, -1, 0, 99, 100, HIGH}) one(state, "give", v);
        for (int what : WHAT) {
            one(state, "guess", what);
            one(state, "count", what);
            for (int times : new int[] {LOW, -1, 0, 1, 30, 31, HIGH}) {
                for (int seed : new int[] {LOW, -1, 0, 1, HIGH}) in(state).call("drawn", times, seed, what).call("digest");
            }
        }
        for (String method : new String[] {"forget", "found", "image", "restore", "digest"}) one(state, method);
    }
}
