/** The section "Description" on the page and the text of rows, sentence by sentence. */
final class DescribedTextTest extends Sentences {
    private static final String SIGNS = "0123456789abcdefghi";

    public static void main(String[] args) {
        new DescribedTextTest().run();
    }

    @Override
    void all() {
        page();
        oneToEightRows();
        grammarOfTold();
        grammarOfOthers();
        grammarOfEach();
        signs();
        parts();
        firstFault();
        noFault();
        prefixes();
    }

    private void page() {
        section("Description");
        says("The page is a text of at most 47 characters with codes from 32 to 126");
        AheadRows x = new AheadRows();
        for (int i = 1; i <= 47; i++) is("letter, the " + i + "th", x.letter(i % 2 == 0 ? 32 : 126), i);
        is("letter, the 48th", x.letter(32), FULL);
        x = new AheadRows();
        is("letter(31)", x.letter(31), OUTSIDE);
        is("letter(127)", x.letter(127), OUTSIDE);
        is("length", x.count(4), 0);
    }

    private void oneToEightRows() {
        says("The text of rows consists of one to eight rows, separated by \";\":");
        isRefused("", 0);
        isRead("t0000", 1);
        isRead(EIGHT_TOLD, 8);
        isRead("t0000;d0;d1;d2;d3;d4;d5;d6", 8);
        isRefused("t0000;d0;d1;d2;d3;d4;d5;d6;", 26);
        isRefused("t0000;d0;d1;d2;d3;d4;d5;d6;d7", 26);
        isRefused("t0000;d0;d1;d2;d3;d4;d5;d60", 26);
        isRefused("t0000;", 6);
        isRefused(";t0000", 0);
        isRefused("t0000;;d0", 6);
        isRefused("t0000t0000", 5);
        isRefused("t0000,t0000", 5);
        isRefused("t0000:t0000", 5);
        isRefused("t0000; t0000", 6);
        isRefused("t0000 ;t0000", 5);
    }

    private void grammarOfTold() {
        says("row = \"t\" sign sign sign sign told, with C, D, E and F");
        AheadRows x = of("t1a2b");
        rowIs(x, 0, 0, 1, -1, 2, -2);
        isRefused("t", 1);
        isRefused("t0", 2);
        isRefused("t00", 3);
        isRefused("t000", 4);
        isRead("t0000", 1);
        isRefused("t00000", 5);
        isRefused("t000;", 4);
        isRefused("T0000", 0);
        isRefused("00000", 0);
    }

    private void grammarOfOthers() {
        says("| \"+\" part part sum");
        rowIs(of("t0000;d0;+10"), 2, 1, 1, 0);
        isRefused("t0000;+", 7);
        isRefused("t0000;+0", 8);
        isRead("t0000;+00", 2);
        isRefused("t0000;+000", 9);
        isRefused("t0000;+0;d0", 8);
        says("| \"*\" part part product");
        rowIs(of("t0000;d0;*10"), 2, 2, 1, 0);
        isRefused("t0000;*", 7);
        isRefused("t0000;*0", 8);
        isRead("t0000;*00", 2);
        isRefused("t0000;*000", 9);
        isRefused("t0000;*0;d0", 8);
        says("| \"d\" part step");
        rowIs(of("t0000;d0;d1"), 2, 4, 1);
        isRefused("t0000;d", 7);
        isRead("t0000;d0", 2);
        isRefused("t0000;d00", 8);
        isRefused("t0000;d;d0", 7);
        isRefused("t0000;D0", 6);
    }

    private void grammarOfEach() {
        says("| \"e\" part digit digit each, with N (1 to 5) and S");
        rowIs(of("t0000;d0;e159"), 2, 3, 1, 5, 9);
        rowIs(of("t0000;d0;e010"), 2, 3, 0, 1, 0);
        isRefused("t0000;e", 7);
        isRefused("t0000;e0", 8);
        isRefused("t0000;e01", 9);
        isRead("t0000;e010", 2);
        isRefused("t0000;e0100", 10);
        isRefused("t0000;e01;d0", 9);
        isRefused("t0000;E010", 6);
        for (char n = '0'; n <= '9'; n++) {
            if (n >= '1' && n <= '5') isRead("t0000;e0" + n + "0", 2);
            else isRefused("t0000;e0" + n + "0", 8);
        }
        for (char s = '0'; s <= '9'; s++) {
            AheadRows x = of("t0000;e03" + s);
            is("S of '" + s + "'", x.row(1, 3), s - '0');
        }
        // N and S are digits, no signs
        isRefused("t0000;e0a0", 8);
        isRefused("t0000;e01a", 9);
        isRefused("t0000;e01/", 9);
        isRefused("t0000;e01:", 9);
    }

    private void signs() {
        says("A sign is a digit, or a letter from a to i for -1 to -9");
        for (int place = 1; place <= 4; place++) {
            for (int code = 32; code <= 126; code++) {
                char[] text = "t0000".toCharArray();
                text[place] = (char) code;
                AheadRows x = onPage(new String(text));
                int sign = SIGNS.indexOf(code);
                is("fault of " + new String(text), x.fault(), sign < 0 ? place : 5);
                is("rows of " + new String(text), x.rows(), sign < 0 ? STATE : 1);
                if (sign >= 0) is("row(0, " + place + ")", x.row(0, place), sign < 10 ? sign : 9 - sign);
            }
        }
    }

    private void parts() {
        says("A part is a digit, the number of a row that comes before in the text");
        String before = "t0000";
        for (int row = 1; row <= 7; row++) {
            for (char part = '0'; part <= '9'; part++) {
                boolean fits = part - '0' < row;
                int at = before.length() + 1;
                is("fault of a step of " + part, onPage(before + ";d" + part).fault(), fits ? at + 2 : at + 1);
                is("fault of an each of " + part, onPage(before + ";e" + part).fault(), fits ? at + 2 : at + 1);
                is("fault of a sum of " + part, onPage(before + ";+" + part).fault(), fits ? at + 2 : at + 1);
                is("fault of a sum of 0 and " + part, onPage(before + ";+0" + part).fault(), fits ? at + 3 : at + 2);
                is("fault of a product of " + part, onPage(before + ";*" + part).fault(), fits ? at + 2 : at + 1);
                is("fault of a product of 0 and " + part, onPage(before + ";*0" + part).fault(), fits ? at + 3 : at + 2);
            }
            before += ";d" + (row - 1);
        }
        isRefused("t0000;da", 7);
        isRefused("t0000;d/", 7);
        isRefused("t0000;d ", 7);
        isRefused("t0000;+0a", 8);
        // the present rows are none of the text
        AheadRows x = of(EIGHT);
        Due.type(x, "t0000;d1");
        is("fault of a step of a present row", x.fault(), 7);
        is("rows()", x.rows(), STATE);
        says("(so the first row is a told one)");
        isRefused("+00", 0);
        isRefused("*00", 0);
        isRefused("e010", 0);
        isRefused("d0", 0);
        AheadRows y = of(EIGHT);
        Due.type(y, "d0");
        is("fault of a step of a present row", y.fault(), 0);
        is("rows()", y.rows(), STATE);
    }

    private void firstFault() {
        says("The fault of the page is the position, from 0, of the first character with which the text so far "
            + "is no beginning of any text of rows");
        faultIs("x", 0);
        faultIs("xt0000", 0);
        faultIs("tx", 1);
        faultIs("txxxx", 1);
        faultIs("t0x0x", 2);
        faultIs("t0000x", 5);
        faultIs("t0000x;d0", 5);
        faultIs("t0000;x", 6);
        faultIs("t0000;d1;d0", 7);
        faultIs("t0000;d0;e160", 11);
        faultIs(repeated(" ", 47), 0);
        faultIs(EIGHT_TOLD.substring(0, 46) + " ", 46);
        faultIs("t0000;t0000;t0000;t0000;t0000;t0000;t0000;d0;d0", 44);
        // what follows the fault does not mend it
        AheadRows x = onPage("t00j");
        is("fault()", x.fault(), 3);
        x.letter('0');
        is("fault() one letter later", x.fault(), 3);
        x.letter(';');
        is("fault() two letters later", x.fault(), 3);
        // every character in the place of a row's first
        for (int code = 32; code <= 126; code++) {
            boolean first = code == 't';
            boolean next = "t+*ed".indexOf(code) >= 0;
            faultIs("" + (char) code, first ? 1 : 0);
            faultIs("t0000;" + (char) code, next ? 7 : 6);
            faultIs("t0000" + (char) code, code == ';' ? 6 : 5);
        }
    }

    private void noFault() {
        says("it is the length of the page if there is no such character");
        faultIs("t0000", 5);
        faultIs("t0000;d0", 8);
        faultIs(EIGHT_TOLD, 47);
        says("(also if the text is incomplete)");
        faultIs("", 0);
        faultIs("t", 1);
        faultIs("t12", 3);
        faultIs("t0000;", 6);
        faultIs("t0000;e0", 8);
        faultIs(EIGHT_TOLD.substring(0, 46), 46);
        faultIs(EIGHT_TOLD.substring(0, 42), 42);
    }

    /** Every beginning of a text of all kinds is without a fault. */
    private void prefixes() {
        String text = "t9ia1;+00;*01;e259;d3;t0000;*54;e612";
        AheadRows x = new AheadRows();
        is("fault of nothing", x.fault(), 0);
        for (int i = 0; i < text.length(); i++) {
            x.letter(text.charAt(i));
            is("fault of \"" + text.substring(0, i + 1) + "\"", x.fault(), i + 1);
        }
        is("rows()", x.rows(), 8);
    }
}
