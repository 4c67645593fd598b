import java.util.ArrayList;
import java.util.List;
import java.util.function.Supplier;
import java.util.function.ToLongFunction;

/** The section "Description" on error codes and examples, sentence by sentence. */
final class DescribedErrorsTest extends Sentences {
    /** A call that is refused: what it begins with, the call, and the code that is due. */
    private record Refused(String name, Supplier<AheadRows> from, ToLongFunction<AheadRows> call, int code) {
    }

    private final List<Refused> refused = new ArrayList<>();

    public static void main(String[] args) {
        new DescribedErrorsTest().run();
    }

    @Override
    void all() {
        refused.clear();
        unknownCalls();
        outsideCalls();
        outsideChanges();
        stateCalls();
        fullCalls();
        section("Description");
        codes();
        order();
        orderOfChanges();
        none();
        changesNothing();
        examples();
    }

    // ---- objects to begin with

    /** Eight rows, eight given terms without a guess, a full page with a fault, and an image of something else. */
    private static AheadRows full() {
        AheadRows x = told(1, 0, 42, 42);
        x.give(17);
        x.image();
        x.drop();
        x.forget();
        for (int[] n : new int[][] {{0, 5, 0, 6}, {4, 4, 3, 6}, {2, 4, 4, 4}}) x.told(n[0], n[1], n[2], n[3]);
        x.product(0, 1);
        x.product(2, 3);
        x.sum(4, 0);
        x.each(1, 5, 0);
        x.step(6);
        for (int v : new int[] {1, 1, 1, 2, 5, 0, 7, 9}) x.give(v);
        Due.type(x, repeated("t", 47));
        return x;
    }

    /** Two rows, a given term, an incomplete page, and no image since the rows were read. */
    private static AheadRows some() {
        AheadRows x = told(1, 0, 42, 42);
        x.image();
        Due.type(x, "t1101;d0");
        x.rows();
        x.give(5);
        Due.type(x, "t11");
        return x;
    }

    /** No rows, but an image of one. */
    private static AheadRows emptied() {
        AheadRows x = told(1, 0, 42, 42);
        x.give(9);
        x.image();
        x.drop();
        x.give(8);
        x.letter('t');
        return x;
    }

    private void add(String name, Supplier<AheadRows> from, int code, ToLongFunction<AheadRows> call) {
        refused.add(new Refused(name, from, call, code));
    }

    // ---- calls that are refused

    private void unknownCalls() {
        for (Supplier<AheadRows> from : List.<Supplier<AheadRows>>of(AheadRows::new, DescribedErrorsTest::some, DescribedErrorsTest::full)) {
            add("row(8, 0)", from, UNKNOWN, x -> x.row(8, 0));
            add("as(8, 0)", from, UNKNOWN, x -> x.as(8, 0));
            add("term(8, 0)", from, UNKNOWN, x -> x.term(8, 0));
            add("by(8, 0, 2)", from, UNKNOWN, x -> x.by(8, 0, 2));
            add("lap(8, 2, 0)", from, UNKNOWN, x -> x.lap(8, 2, 0));
            add("least(8, 2, 0)", from, UNKNOWN, x -> x.least(8, 2, 0));
            add("rule(8, 0)", from, UNKNOWN, x -> x.rule(8, 0));
            add("roots(8, 0)", from, UNKNOWN, x -> x.roots(8, 0));
            add("noughts(8)", from, UNKNOWN, x -> x.noughts(8));
            add("ends(8)", from, UNKNOWN, x -> x.ends(8));
            add("open(8, 0)", from, UNKNOWN, x -> x.open(8, 0));
            add("meets(8, 0, 2)", from, UNKNOWN, x -> x.meets(8, 0, 2));
            add("meets(0, 8, 2)", from, UNKNOWN, x -> x.meets(0, 8, 2));
            add("sum(8, 0)", from, UNKNOWN, x -> x.sum(8, 0));
            add("sum(0, 8)", from, UNKNOWN, x -> x.sum(0, 8));
            add("product(8, 0)", from, UNKNOWN, x -> x.product(8, 0));
            add("product(0, 8)", from, UNKNOWN, x -> x.product(0, 8));
            add("each(8, 1, 0)", from, UNKNOWN, x -> x.each(8, 1, 0));
            add("step(8)", from, UNKNOWN, x -> x.step(8));
            add("put(8, 0, 0)", from, UNKNOWN, x -> x.put(8, 0, 0));
            add("ease(8)", from, UNKNOWN, x -> x.ease(8));
            add("put(-1, 0, 0)", from, UNKNOWN, x -> x.put(-1, 0, 0));
            add("ease(-1)", from, UNKNOWN, x -> x.ease(-1));
        }
    }

    private void outsideCalls() {
        for (Supplier<AheadRows> from : List.<Supplier<AheadRows>>of(DescribedErrorsTest::some, DescribedErrorsTest::full)) {
            add("row(0, 5)", from, OUTSIDE, x -> x.row(0, 5));
            add("as(0, 7)", from, OUTSIDE, x -> x.as(0, 7));
            add("term(0, 201)", from, OUTSIDE, x -> x.term(0, 201));
            add("by(0, -1, 2)", from, OUTSIDE, x -> x.by(0, -1, 2));
            add("by(0, 0, 11)", from, OUTSIDE, x -> x.by(0, 0, 11));
            add("lap(0, 11, 0)", from, OUTSIDE, x -> x.lap(0, 11, 0));
            add("lap(0, 2, 3)", from, OUTSIDE, x -> x.lap(0, 2, 3));
            add("least(0, 4, 0)", from, OUTSIDE, x -> x.least(0, 4, 0));
            add("least(0, 2, 9)", from, OUTSIDE, x -> x.least(0, 2, 9));
            add("rule(0, 5)", from, OUTSIDE, x -> x.rule(0, 5));
            add("roots(0, 5)", from, OUTSIDE, x -> x.roots(0, 5));
            add("open(0, 2)", from, OUTSIDE, x -> x.open(0, 2));
            add("meets(0, 0, 1)", from, OUTSIDE, x -> x.meets(0, 0, 1));
        }
    }

    private void outsideChanges() {
        for (Supplier<AheadRows> from : List.<Supplier<AheadRows>>of(DescribedErrorsTest::some, DescribedErrorsTest::full)) {
            add("letter(127)", from, OUTSIDE, x -> x.letter(127));
            add("told(10, 0, 0, 0)", from, OUTSIDE, x -> x.told(10, 0, 0, 0));
            add("told(0, 0, 0, 1000)", from, OUTSIDE, x -> x.told(0, 0, 0, 1000));
            add("each(0, 6, 0)", from, OUTSIDE, x -> x.each(0, 6, 0));
            add("each(0, 1, 10)", from, OUTSIDE, x -> x.each(0, 1, 10));
            add("put(0, 4, 0)", from, OUTSIDE, x -> x.put(0, 4, 0));
            add("put(0, 0, 10)", from, OUTSIDE, x -> x.put(0, 0, 10));
            add("put(0, 3, 1000)", from, OUTSIDE, x -> x.put(0, 3, 1000));
            add("give(100)", from, OUTSIDE, x -> x.give(100));
            add("guess(3)", from, OUTSIDE, x -> x.guess(3));
            add("drawn(31, 0, 0)", from, OUTSIDE, x -> x.drawn(31, 0, 0));
            add("drawn(1, -1, 0)", from, OUTSIDE, x -> x.drawn(1, -1, 0));
            add("drawn(1, 0, 3)", from, OUTSIDE, x -> x.drawn(1, 0, 3));
            add("count(6)", from, OUTSIDE, x -> x.count(6));
        }
    }

    private void stateCalls() {
        add("rows() of an incomplete page", DescribedErrorsTest::some, STATE, x -> x.rows());
        add("rows() of a page with a fault", DescribedErrorsTest::full, STATE, x -> x.rows());
        add("rows() of an empty page", () -> told(1, 0, 42, 42), STATE, x -> x.rows());
        add("rule of a step of an each", DescribedErrorsTest::full, STATE, x -> x.rule(7, 0));
        add("roots of a step", DescribedErrorsTest::some, STATE, x -> x.roots(1, 0));
        add("put into a step", DescribedErrorsTest::some, STATE, x -> x.put(1, 0, 1));
        add("put into a product", DescribedErrorsTest::full, STATE, x -> x.put(3, 3, 1));
        add("drop() without rows", DescribedErrorsTest::emptied, STATE, x -> x.drop());
        add("ease of a told row", DescribedErrorsTest::some, STATE, x -> x.ease(0));
        add("ease of a product", DescribedErrorsTest::full, STATE, x -> x.ease(3));
        add("ease of a sum", DescribedErrorsTest::full, STATE, x -> x.ease(5));
        add("ease of an each", DescribedErrorsTest::full, STATE, x -> x.ease(6));
        add("found() without a guess", DescribedErrorsTest::full, STATE, x -> x.found());
        add("image() without rows", DescribedErrorsTest::emptied, STATE, x -> x.image());
        add("image() of a new object", AheadRows::new, STATE, x -> x.image());
        add("restore() without an image", () -> given(3), STATE, x -> x.restore());
        add("restore() after rows()", DescribedErrorsTest::some, STATE, x -> x.restore());
    }

    /** As full(), but with a guess. */
    private static AheadRows fullWithGuess() {
        AheadRows x = full();
        x.forget();
        x.give(3);
        return x;
    }

    private void fullCalls() {
        add("letter(32) on a full page", DescribedErrorsTest::full, FULL, x -> x.letter(32));
        add("told with 8 rows", DescribedErrorsTest::full, FULL, x -> x.told(1, 1, 0, 1));
        add("sum with 8 rows", DescribedErrorsTest::full, FULL, x -> x.sum(0, 0));
        add("product with 8 rows", DescribedErrorsTest::full, FULL, x -> x.product(0, 0));
        add("each with 8 rows", DescribedErrorsTest::full, FULL, x -> x.each(0, 1, 0));
        add("step with 8 rows", DescribedErrorsTest::full, FULL, x -> x.step(0));
        add("give with 8 given", DescribedErrorsTest::full, FULL, x -> x.give(0));
        add("found with 8 rows", DescribedErrorsTest::fullWithGuess, FULL, x -> x.found());
    }

    // ---- what the document says of them

    private void allWith(int code) {
        for (Refused r : refused) {
            if (r.code() == code) is(r.name(), r.call().applyAsLong(r.from().get()), code);
        }
    }

    private void codes() {
        says("UNKNOWN: there is no such row");
        is("UNKNOWN", AheadRows.UNKNOWN, 2000000101);
        allWith(UNKNOWN);
        says("OUTSIDE: another argument is out of its range");
        is("OUTSIDE", AheadRows.OUTSIDE, 2000000102);
        allWith(OUTSIDE);
        says("STATE: the call is not possible, as told there");
        is("STATE", AheadRows.STATE, 2000000103);
        allWith(STATE);
        says("FULL: there is no room");
        is("FULL", AheadRows.FULL, 2000000104);
        allWith(FULL);
    }

    private void order() {
        says("Each method lists its error codes in the order in which they are checked, and returns the first one that applies");
        AheadRows x = full();
        // UNKNOWN, then OUTSIDE
        is("row(8, 5)", x.row(8, 5), UNKNOWN);
        is("as(8, 7)", x.as(8, 7), UNKNOWN);
        is("term(8, 201)", x.term(8, 201), UNKNOWN);
        is("by(8, -1, 11)", x.by(8, -1, 11), UNKNOWN);
        is("lap(8, 11, 3)", x.lap(8, 11, 3), UNKNOWN);
        is("least(8, 4, 9)", x.least(8, 4, 9), UNKNOWN);
        is("rule(8, 5)", x.rule(8, 5), UNKNOWN);
        is("roots(8, 5)", x.roots(8, 5), UNKNOWN);
        is("open(8, 2)", x.open(8, 2), UNKNOWN);
        is("meets(8, 0, 11)", x.meets(8, 0, 11), UNKNOWN);
        is("meets(0, 8, 11)", x.meets(0, 8, 11), UNKNOWN);
        is("each(8, 6, 10)", x.each(8, 6, 10), UNKNOWN);
        is("put(8, 4, 1000)", x.put(8, 4, 1000), UNKNOWN);
        // OUTSIDE, then STATE
        is("rule(7, 5)", x.rule(7, 5), OUTSIDE);
        is("rule(7, 4)", x.rule(7, 4), STATE);
        is("roots(7, 5)", x.roots(7, 5), OUTSIDE);
        is("roots(7, 4)", x.roots(7, 4), STATE);
    }

    private void orderOfChanges() {
        AheadRows x = full();
        // what of put before the kind of the row, and that before v
        is("put(7, 4, 1000)", x.put(7, 4, 1000), OUTSIDE);
        is("put(7, 3, 1000)", x.put(7, 3, 1000), STATE);
        is("put(7, 0, 10)", x.put(7, 0, 10), STATE);
        is("put(0, 4, 0)", x.put(0, 4, 0), OUTSIDE);
        is("put(0, 3, 1000)", x.put(0, 3, 1000), OUTSIDE);
        // OUTSIDE and UNKNOWN, then FULL; STATE, then FULL
        is("letter(127), full", x.letter(127), OUTSIDE);
        is("told(10, 0, 0, 0), full", x.told(10, 0, 0, 0), OUTSIDE);
        is("sum(8, 0), full", x.sum(8, 0), UNKNOWN);
        is("sum(0, 8), full", x.sum(0, 8), UNKNOWN);
        is("product(8, 0), full", x.product(8, 0), UNKNOWN);
        is("product(0, 8), full", x.product(0, 8), UNKNOWN);
        is("each(8, 1, 0), full", x.each(8, 1, 0), UNKNOWN);
        is("each(0, 6, 0), full", x.each(0, 6, 0), OUTSIDE);
        is("step(8), full", x.step(8), UNKNOWN);
        is("give(100), full", x.give(100), OUTSIDE);
        is("found() without a guess, full", x.found(), STATE);
        is("ease(8)", x.ease(8), UNKNOWN);
    }

    private void none() {
        says("NONE is not an error");
        AheadRows x = told(1, 1, 1, 1, 1, 0, 0, 0, 1, 0, 1, 1);
        x.step(0);
        is("NONE", AheadRows.NONE, 2000000001);
        is("row(3, 2)", x.row(3, 2), NONE);
        is("as(3, 5)", x.as(3, 5), NONE);
        is("roots(0, 1)", x.roots(0, 1), NONE);
        is("ends(1)", x.ends(1), NONE);
        is("open(2, 1)", x.open(2, 1), NONE);
        is("meets(1, 2, 2)", x.meets(1, 2, 2), NONE);
        is("guess(0)", given(0, 0, 1).guess(0), NONE);
        says("it is returned only if no error applies");
        is("row(3, 5)", x.row(3, 5), OUTSIDE);
        is("row(4, 2)", x.row(4, 2), UNKNOWN);
        is("as(3, 7)", x.as(3, 7), OUTSIDE);
        is("as(4, 5)", x.as(4, 5), UNKNOWN);
        is("roots(0, 5)", x.roots(0, 5), OUTSIDE);
        is("roots(3, 1)", x.roots(3, 1), STATE);
        is("roots(4, 1)", x.roots(4, 1), UNKNOWN);
        is("ends(4)", x.ends(4), UNKNOWN);
        is("open(2, 2)", x.open(2, 2), OUTSIDE);
        is("open(4, 1)", x.open(4, 1), UNKNOWN);
        is("meets(1, 2, 11)", x.meets(1, 2, 11), OUTSIDE);
        is("meets(1, 4, 2)", x.meets(1, 4, 2), UNKNOWN);
        is("guess(3)", given(0, 0, 1).guess(3), OUTSIDE);
        AheadRows nine = of("t5144;t6422;t2526;*01;*23;+40");
        is("least(5, 7, 1)", nine.least(5, 7, 1), NONE);
        is("least(5, 7, 9)", nine.least(5, 7, 9), OUTSIDE);
        is("least(5, 6, 1)", nine.least(5, 6, 1), OUTSIDE);
        is("least(6, 7, 1)", nine.least(6, 7, 1), UNKNOWN);
    }

    /** All that can be told of an object, the image last; it is another one then. */
    private static List<Long> allOf(AheadRows x) {
        List<Long> all = new ArrayList<>();
        all.add(x.digest());
        all.add((long) x.fault());
        for (int what = 0; what <= 5; what++) all.add((long) x.count(what));
        for (int row = 0; row < 8; row++) {
            for (int m = 2; m <= 10; m++) all.add((long) x.by(row, 9, m));
            all.add((long) x.term(row, 9));
            all.add((long) x.rule(row, 1));
            all.add((long) x.row(row, 4));
        }
        all.add((long) x.restore());
        all.add(x.digest());
        all.add((long) x.blank());
        all.add((long) x.forget());
        all.add((long) x.told(1, 1, 0, 1));
        all.add(x.digest());
        return all;
    }

    private void changesNothing() {
        says("A call that returns an error code changes nothing");
        for (Refused r : refused) {
            AheadRows x = r.from().get();
            is(r.name(), r.call().applyAsLong(x), r.code());
            holds("all is as before " + r.name(), allOf(x).equals(allOf(r.from().get())));
            AheadRows known = r.from().get();
            // once more, when the tables of the object have been used before
            known.digest();
            known.by(1, 9, 10);
            r.call().applyAsLong(known);
            r.call().applyAsLong(known);
            holds("all is as before two times " + r.name(), allOf(known).equals(allOf(r.from().get())));
        }
    }

    private void examples() {
        says("Examples: Each of them begins with a new object");
        // ExamplesTest has every call; here is that none of them hangs on the one before
        AheadRows x = new AheadRows();
        is("told(1, 1, 0, 1)", x.told(1, 1, 0, 1), 0);
        AheadRows y = new AheadRows();
        is("told(0, 0, 0, 0)", y.told(0, 0, 0, 0), 0);
        is("letter(116)", new AheadRows().letter(116), 1);
        is("guess(0)", new AheadRows().guess(0), 0);
        is("image()", new AheadRows().image(), 2000000103);
    }
}
