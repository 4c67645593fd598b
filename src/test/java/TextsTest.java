/** Promises 1 to 5, sentence by sentence: a new object and the page. */
final class TextsTest extends Sentences {
    public static void main(String[] args) {
        new TextsTest().run();
    }

    @Override
    void all() {
        newObject();
        letter();
        letterRefused();
        blank();
        fault();
        rowsReplace();
        rowsStay();
        rowsRefused();
    }

    private void newObject() {
        section("Promise 1");
        says("Creates a laboratory without rows and given terms");
        AheadRows x = new AheadRows();
        is("row(0, 0)", x.row(0, 0), UNKNOWN);
        is("drop()", x.drop(), STATE);
        is("forget()", x.forget(), 0);
        is("guess(0)", x.guess(0), 0);
        is("restore()", x.restore(), STATE);
        for (int what = 0; what <= 5; what++) is("count(" + what + ")", x.count(what), 0);
        // 1493, three guesses and six totals, all of them 0
        long h = 1493;
        for (int i = 0; i < 9; i++) h *= 31;
        is("digest()", x.digest(), h);
        says("with an empty page");
        x = new AheadRows();
        is("fault()", x.fault(), 0);
        is("blank()", x.blank(), 0);
        is("letter(32)", x.letter(32), 1);
        says("Creates a laboratory");
        AheadRows other = of(EIGHT);
        other.give(5);
        other.letter('t');
        other.image();
        x = new AheadRows();
        is("digest() beside a used object", x.digest(), h);
        is("restore() beside a used object", x.restore(), STATE);
        x.told(1, 0, 7, 7);
        x.give(6);
        is("the used object's rows", other.count(0), 8);
        is("the used object's row 0", other.row(0, 4), 1);
        is("the used object's guess", other.guess(0), 1);
    }

    private void letter() {
        section("Promise 2");
        says("Appends a character to the page");
        AheadRows x = onPage("t12");
        x.letter('3');
        x.letter('4');
        x.rows();
        rowIs(x, 0, 0, 1, 2, 3, 4);
        is("digest with \"ab\" is not that with \"ba\"", onPage("ab").digest() == onPage("ba").digest() ? 1 : 0, 0);
        says("`code`: its code, 32 to 126");
        for (int code = 32; code <= 126; code++) {
            x = new AheadRows();
            is("letter(" + code + ")", x.letter(code), 1);
            // nine zeros beside it: the guess and the totals but for the length of the page, which is 1
            long h = 1493;
            for (int v : new int[] {0, 0, 0, code, 0, 0, 0, 0, 1, 0}) h = 31 * h + v;
            is("digest() after letter(" + code + ")", x.digest(), h);
        }
        says("Returns the new length of the page");
        x = new AheadRows();
        for (int i = 1; i <= 47; i++) is("letter, the " + i + "th", x.letter(32 + i), i);
        x.blank();
        is("letter after blank()", x.letter('t'), 1);
    }

    private void letterRefused() {
        says("OUTSIDE if code is out of range");
        AheadRows x = new AheadRows();
        for (int code : new int[] {31, 127, 0, -1, 10, 128, 255, 256 + 48, 65536 + 48, -65536 + 48, LOW, HIGH}) {
            is("letter(" + code + ")", x.letter(code), OUTSIDE);
        }
        is("length after that", x.count(4), 0);
        Due.type(x, repeated("~", 47));
        is("letter(31) on a full page", x.letter(31), OUTSIDE);
        is("letter(127) on a full page", x.letter(127), OUTSIDE);
        says("FULL if the page has 47 characters");
        x = onPage(repeated(" ", 46));
        is("letter on a page of 46", x.letter(126), 47);
        is("letter on a page of 47", x.letter(126), FULL);
        is("letter on a page of 47", x.letter(32), FULL);
        is("length after that", x.count(4), 47);
        x.blank();
        is("letter on the page, which is empty now", x.letter(32), 1);
        x = onPage(EIGHT_TOLD);
        is("letter behind eight told rows", x.letter(';'), FULL);
        x.rows();
        is("letter after rows()", x.letter('t'), 1);
    }

    private void blank() {
        section("Promise 3");
        says("Empties the page");
        AheadRows x = of("t1101");
        x.give(4);
        long before = x.digest();
        Due.type(x, "t00x");
        x.blank();
        is("length", x.count(4), 0);
        is("fault()", x.fault(), 0);
        is("digest() as before the letters", x.digest(), before);
        Due.type(x, "t0001");
        is("rows() of what is typed then", x.rows(), 1);
        says("Returns the length that it had");
        x = new AheadRows();
        is("blank() of an empty page", x.blank(), 0);
        x.letter('x');
        is("blank() of one character", x.blank(), 1);
        is("blank() again", x.blank(), 0);
        Due.type(x, repeated("t", 47));
        is("blank() of a full page", x.blank(), 47);
        Due.type(x, "t1101");
        x.rows();
        is("blank() after rows()", x.blank(), 0);
    }

    private void fault() {
        section("Promise 4");
        says("Returns the fault of the page");
        AheadRows x = onPage("t11x1");
        long before = x.digest();
        is("fault()", x.fault(), 3);
        is("fault() again", x.fault(), 3);
        is("digest() after fault()", x.digest(), before);
        x = of("t1101");
        Due.type(x, "t22");
        is("fault() beside a row", x.fault(), 3);
        is("the row after fault()", x.row(0, 1), 1);
        says("Returns the fault.");
        is("fault() of an empty page", new AheadRows().fault(), 0);
        is("fault() of a full page", onPage(EIGHT_TOLD).fault(), 47);
        is("fault() of a full page with a wrong end", onPage(EIGHT_TOLD.substring(0, 46) + "j").fault(), 46);
        x = onPage("tx");
        is("fault()", x.fault(), 1);
        x.blank();
        is("fault() after blank()", x.fault(), 0);
        x.letter('t');
        is("fault() after a letter", x.fault(), 1);
    }

    private void rowsReplace() {
        section("Promise 5");
        says("Reads the page as rows, which replace all present rows");
        AheadRows x = of("t9ia1;e059;*01;+21;d3");
        rowIs(x, 0, 0, 9, -9, -1, 1);
        rowIs(x, 1, 3, 0, 5, 9);
        rowIs(x, 2, 2, 0, 1);
        rowIs(x, 3, 1, 2, 1);
        rowIs(x, 4, 4, 3);
        x = of(EIGHT);
        for (int m = 2; m <= 10; m++) is("by before", x.by(0, 7, m), 13 % m);
        is("term before", x.term(0, 7), 13);
        Due.type(x, "t0012");
        is("rows() in place of eight", x.rows(), 1);
        rowIs(x, 0, 0, 0, 0, 1, 2);
        is("row(1, 0)", x.row(1, 0), UNKNOWN);
        is("row(7, 0)", x.row(7, 0), UNKNOWN);
        is("term then", x.term(0, 7), 0);
        for (int m = 2; m <= 10; m++) is("by then", x.by(0, 7, m), 0);
        is("told then", x.told(0, 0, 3, 0), 1);
        Due.type(x, EIGHT);
        is("rows() in place of two", x.rows(), 8);
        is("term then", x.term(7, 1), 49);
        is("by then", x.by(7, 1, 10), 9);
        // the parts are those of the text, not the present rows
        x = told(1, 0, 100, 100, 1, 0, 200, 200);
        Due.type(x, "t1055;d0;+00");
        x.rows();
        is("a step of the new row", x.term(1, 0), 0);
        is("a sum of the new row", x.term(2, 0), 10);
    }

    private void rowsStay() {
        says("The given terms stay");
        AheadRows x = given(5, 7, 12, 19, 31, 50, 81, -1);
        Due.type(x, "t1101");
        is("rows()", x.rows(), 1);
        is("given then", x.count(3), 8);
        is("guess then", x.guess(0), NONE);
        is("give then", x.give(1), FULL);
        x = given(0, 4, -8);
        Due.type(x, "t1101");
        x.rows();
        guessIs(x, 2, -2, -9);
        says("The page is empty then");
        x = onPage(EIGHT_TOLD);
        x.rows();
        is("length", x.count(4), 0);
        is("fault()", x.fault(), 0);
        is("rows() again", x.rows(), STATE);
        is("blank()", x.blank(), 0);
        says("Returns the number of rows");
        String text = "t1101";
        for (int rows = 1; rows <= 8; rows++) {
            x = onPage(text);
            is("rows() of \"" + text + "\"", x.rows(), rows);
            is("count(0)", x.count(0), rows);
            text += ";d0";
        }
    }

    private void rowsRefused() {
        says("STATE if the page is not a complete text of rows");
        isRefused("", 0);
        isRefused("x", 0);
        isRefused("d0", 0);
        isRefused("t1101;", 6);
        isRefused("t1101;;t1101", 6);
        isRefused("t1101;d1", 7);
        isRefused("t1101 ", 5);
        isRefused(" t1101", 0);
        isRefused("t1101;d0;d0;d0;d0;d0;d0;d0;d0", 26);
        // every beginning of a text, which is complete only where a row ends
        String text = "t1101;+00;*01;e059;d3";
        for (int length = 0; length <= text.length(); length++) {
            boolean whole = length == text.length() || (length > 0 && text.charAt(length) == ';');
            AheadRows x = of("t2222;d0");
            Due.type(x, text.substring(0, length));
            int rows = x.rows();
            is("rows() of \"" + text.substring(0, length) + "\"", rows == STATE ? 0 : 1, whole ? 1 : 0);
            if (!whole) {
                is("rows after that", x.count(0), 2);
                is("length after that", x.count(4), length);
                is("row(0, 1) after that", x.row(0, 1), 2);
                is("count(5) after that", x.count(5), 1);
            }
        }
    }
}
