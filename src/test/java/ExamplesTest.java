/** The document's four examples, call for call. */
final class ExamplesTest {
    private static final Due DUE = new Due("ExamplesTest");

    public static void main(String[] args) {
        fibonacci();
        rowsAsText();
        givenTerms();
        noRows();
        DUE.end();
    }

    private static void fibonacci() {
        AheadRows x = new AheadRows();
        DUE.is("told(1, 1, 0, 1)", x.told(1, 1, 0, 1), 0);
        DUE.is("told(2, 0, 3, 6)", x.told(2, 0, 3, 6), 1);
        DUE.is("product(0, 1)", x.product(0, 1), 2);
        DUE.is("rule(2, 0)", x.rule(2, 0), 4);
        DUE.is("rule(2, 2)", x.rule(2, 2), 4);
        DUE.is("term(0, 44)", x.term(0, 44), 701408733);
        DUE.is("term(0, 45)", x.term(0, 45), 2000000002);
        DUE.is("by(0, 1000000, 7)", x.by(0, 1000000, 7), 0);
        DUE.is("lap(0, 10, 0)", x.lap(0, 10, 0), 60);
        DUE.is("least(0, 2, 0)", x.least(0, 2, 0), 2);
        DUE.is("least(0, 2, 1)", x.least(0, 2, 1), 1);
        DUE.is("ease(2)", x.ease(2), 2);
        DUE.is("row(2, 2)", x.row(2, 2), 4);
        DUE.is("roots(1, 3)", x.roots(1, 3), 0);
        DUE.is("ends(1)", x.ends(1), 5);
        DUE.is("noughts(0)", x.noughts(0), 1);
    }

    private static void rowsAsText() {
        AheadRows x = new AheadRows();
        String text = "t0a12;d0";
        for (int i = 0; i < text.length(); i++) {
            DUE.is("letter(" + (int) text.charAt(i) + ")", x.letter(text.charAt(i)), i + 1);
        }
        DUE.is("fault()", x.fault(), 8);
        DUE.is("rows()", x.rows(), 2);
        DUE.is("roots(0, 3)", x.roots(0, 3), 2);
        DUE.is("roots(0, 0)", x.roots(0, 0), 0);
        DUE.is("term(1, 3)", x.term(1, 3), 3);
        DUE.is("as(1, 6)", x.as(1, 6), 4);
        DUE.is("as(1, 5)", x.as(1, 5), 2000000001);
        DUE.is("meets(0, 1, 3)", x.meets(0, 1, 3), 0);
    }

    private static void givenTerms() {
        AheadRows x = new AheadRows();
        DUE.is("guess(0)", x.guess(0), 0);
        DUE.is("give(0)", x.give(0), 1);
        DUE.is("give(4)", x.give(4), 2);
        DUE.is("give(-8)", x.give(-8), 3);
        DUE.is("guess(0)", x.guess(0), 2);
        DUE.is("guess(1)", x.guess(1), -2);
        DUE.is("found()", x.found(), 0);
        DUE.is("row(0, 4)", x.row(0, 4), 4);
        DUE.is("give(100)", x.give(100), 2000000102);
        DUE.is("put(0, 4, 0)", x.put(0, 4, 0), 2000000102);
        DUE.is("put(0, 0, 10)", x.put(0, 0, 10), 2000000102);
        DUE.is("step(0)", x.step(0), 1);
        DUE.is("each(1, 6, 0)", x.each(1, 6, 0), 2000000102);
        DUE.is("each(0, 2, 9)", x.each(0, 2, 9), 2);
        DUE.is("rule(1, 1)", x.rule(1, 1), -2);
        DUE.is("drop()", x.drop(), 2);
    }

    private static void noRows() {
        AheadRows x = new AheadRows();
        DUE.is("image()", x.image(), 2000000103);
        DUE.is("restore()", x.restore(), 2000000103);
        DUE.is("rows()", x.rows(), 2000000103);
        DUE.is("fault()", x.fault(), 0);
        DUE.is("told(0, 0, 0, 0)", x.told(0, 0, 0, 0), 0);
        DUE.is("open(0, 0)", x.open(0, 0), 1000);
        DUE.is("open(0, 1)", x.open(0, 1), 999);
        DUE.is("ends(0)", x.ends(0), 2000000001);
        DUE.is("least(0, 7, 1)", x.least(0, 7, 1), 0);
        DUE.is("least(0, 4, 0)", x.least(0, 4, 0), 2000000102);
        DUE.is("lap(0, 2, 2)", x.lap(0, 2, 2), 1);
        DUE.is("drawn(31, 0, 0)", x.drawn(31, 0, 0), 2000000102);
        DUE.is("sum(0, 1)", x.sum(0, 1), 2000000101);
        DUE.is("term(0, 201)", x.term(0, 201), 2000000102);
        DUE.is("count(6)", x.count(6), 2000000102);
    }
}
