import java.util.Random;

/** Pseudo-random runs of 512 calls, each answer held against Model's. An argument sets the number of runs. */
final class ModelTest {
    private static final Due DUE = new Due("ModelTest");
    private static final String[] CALLS = {
        "letter", "blank", "fault", "rows", "row", "as", "term", "by", "lap", "least", "rule", "roots", "noughts", "ends",
        "open", "meets", "told", "sum", "product", "each", "step", "put", "drop", "ease", "give", "forget", "guess", "found",
        "drawn", "image", "restore", "count", "digest"};
    // How often each of these is called, in the same order.
    private static final int[] WEIGHTS = {
        1, 1, 3, 1, 6, 4, 12, 8, 10, 12, 10, 8, 5, 4,
        2, 6, 8, 4, 6, 6, 4, 10, 12, 10, 10, 3, 6, 3,
        1, 4, 3, 3, 4};

    private final Random random;
    private final Pair pair;
    private int rowsAbout;
    private int toldFirst;

    private ModelTest(String name, long seed) {
        random = new Random(seed);
        pair = new Pair(DUE, name);
    }

    public static void main(String[] args) throws ReflectiveOperationException {
        int runs = args.length > 0 ? Integer.parseInt(args[0]) : 300;
        for (int run = 0; run < runs; run++) {
            new ModelTest("run " + run, 7919L * run + 13).run();
            new ModelTest("deep run " + run, 104729L * run + 5).deep();
        }
        DUE.end();
    }

    private void run() throws ReflectiveOperationException {
        int calls = 0;
        while (calls < 511) {
            if (calls == 0 || random.nextInt(80) == 0) {
                calls += typed(text(), 511 - calls);
            } else {
                String name = anyCall();
                pair.call(name, arguments(name));
                calls++;
            }
            rowsAbout = pair.rows();
        }
        pair.call("digest");
    }

    /** Rows upon rows of products and sums, of which alone linear complexities above 8 come. */
    private void deep() throws ReflectiveOperationException {
        for (int i = 0; i < 3; i++) pair.call("told", factor(), factor(), random.nextInt(9), random.nextInt(9));
        for (int i = 3; i < 8; i++) {
            int one = i - 1 - random.nextInt(2), other = random.nextInt(i);
            if (random.nextInt(5) == 0) pair.call("each", one, 1 + random.nextInt(5), random.nextInt(10));
            else pair.call(random.nextInt(3) == 0 ? "sum" : "product", one, other);
        }
        for (int row = 4; row < 8; row++) {
            for (int p : new int[] {2, 3, 5, 7}) {
                for (int what = 0; what <= 8; what++) pair.call("least", row, p, what);
            }
        }
        for (int m = 2; m <= 10; m++) {
            for (int what = 0; what <= 2; what++) pair.call("lap", 7, m, what);
            pair.call("by", 7, Integer.MAX_VALUE - m, m);
        }
        pair.call("open", 7, 0);
        pair.call("open", 7, 1);
        pair.call("ends", 7);
        pair.call("digest");
    }

    /** Types a text, mostly on an empty page, and mostly reads it then; how many calls that took. */
    private int typed(String text, int most) throws ReflectiveOperationException {
        if (text.length() + 3 > most) {
            pair.call("fault");
            return 1;
        }
        if (random.nextInt(6) != 0) pair.call("blank");
        for (int i = 0; i < text.length(); i++) pair.call("letter", text.charAt(i));
        pair.call("fault");
        if (random.nextInt(6) != 0) pair.call("rows");
        return text.length() + 3;
    }

    private String anyCall() {
        int total = 0;
        for (int weight : WEIGHTS) total += weight;
        int at = random.nextInt(total);
        int i = 0;
        while (at >= WEIGHTS[i]) at -= WEIGHTS[i++];
        return CALLS[i];
    }

    /** Mostly from least to most, sometimes just outside, seldom far outside. */
    private int about(int least, int most) {
        switch (random.nextInt(60)) {
            case 0: return least - 1;
            case 1: return most + 1;
            case 2: return random.nextBoolean() ? Integer.MIN_VALUE : Integer.MAX_VALUE;
            case 3: return least;
            case 4: return most;
            default: return least + random.nextInt(most - least + 1);
        }
    }

    private int someRow() {
        return about(0, Math.max(0, rowsAbout - 1));
    }

    private int factor() {
        return random.nextInt(3) == 0 ? about(-9, 9) : about(-3, 3);
    }

    private int start() {
        return random.nextInt(3) == 0 ? about(-999, 999) : about(-4, 4);
    }

    private int prime() {
        return random.nextInt(12) == 0 ? about(1, 8) : new int[] {2, 3, 5, 7}[random.nextInt(4)];
    }

    private int number() {
        switch (random.nextInt(4)) {
            case 0: return about(0, 30);
            case 1: return about(0, 2000);
            case 2: return random.nextInt() & Integer.MAX_VALUE;
            default: return Integer.MAX_VALUE - random.nextInt(20);
        }
    }

    private int[] arguments(String name) {
        switch (name) {
            case "letter": return new int[] {about(32, 126)};
            case "row": return new int[] {someRow(), about(0, 4)};
            case "as": return new int[] {someRow(), about(0, 6)};
            case "term": return new int[] {someRow(), random.nextInt(3) == 0 ? about(0, 200) : about(0, 25)};
            case "by": return new int[] {someRow(), number(), about(2, 10)};
            case "lap": return new int[] {someRow(), about(2, 10), about(0, 2)};
            case "least": return new int[] {someRow(), prime(), random.nextBoolean() ? 0 : about(0, 8)};
            case "rule":
            case "roots": return new int[] {someRow(), about(0, 4)};
            case "noughts":
            case "ends":
            case "step":
            case "ease": return new int[] {someRow()};
            case "open": return new int[] {someRow(), about(0, 1)};
            case "meets": return new int[] {someRow(), someRow(), about(2, 10)};
            case "told": return powersOrTold();
            case "sum":
            case "product": return new int[] {someRow(), someRow()};
            case "each": return new int[] {someRow(), about(1, 5), about(0, 9)};
            case "put": return putArguments();
            case "give": return new int[] {givenTerm()};
            case "guess": return new int[] {about(0, 2)};
            case "drawn": return new int[] {about(1, 30), random.nextBoolean() ? about(0, 100) : number(), about(0, 2)};
            case "count": return new int[] {about(0, 5)};
            default: return new int[0];
        }
    }

    private int[] powersOrTold() {
        int c = factor(), e = start();
        return random.nextInt(4) == 0 ? new int[] {c, 0, e, c * e} : new int[] {c, factor(), e, start()};
    }

    private int[] putArguments() {
        int what = about(0, 3);
        return new int[] {someRow(), what, what < 2 ? factor() : start()};
    }

    private int givenTerm() {
        return random.nextInt(2) == 0 ? random.nextInt(5) - 2 : about(-99, 99);
    }

    private String text() {
        StringBuilder text = new StringBuilder();
        int rows = 1 + random.nextInt(9);
        toldFirst = random.nextInt(5);
        for (int row = 0; row < rows; row++) {
            if (row > 0) text.append(';');
            text.append(rowText(row));
        }
        if (random.nextInt(3) == 0) {
            text.setCharAt(random.nextInt(text.length()), "t+*ed;0123456789abcij7 ~"
                .charAt(random.nextInt(24)));
        }
        if (random.nextInt(5) == 0) text.setLength(random.nextInt(text.length()));
        return text.toString();
    }

    private String rowText(int row) {
        int kind = row == 0 || row < toldFirst ? 0 : random.nextInt(6);
        switch (kind) {
            case 1: return "+" + part(row) + part(row);
            case 2: return "*" + part(row) + part(row);
            case 3: return "e" + part(row) + (1 + random.nextInt(5)) + random.nextInt(10);
            case 4: return "d" + part(row);
            default: return "t" + sign() + sign() + sign() + sign();
        }
    }

    private int part(int row) {
        return random.nextInt(30) == 0 ? Math.min(9, row) : random.nextInt(row);
    }

    private char sign() {
        return "0123456789abcdefghi".charAt(random.nextInt(19));
    }
}
