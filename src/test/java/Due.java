/** Counts the answers that are not as due; a test ends with exit code 1 if there was one. */
final class Due {
    static final int NONE = 2000000001, FAR = 2000000002, UNKNOWN = 2000000101;
    static final int OUTSIDE = 2000000102, STATE = 2000000103, FULL = 2000000104;

    private final String test;
    private final int mostShown;
    private int shown;
    private int wrong;
    private int asked;

    Due(String test) {
        this(test, 50);
    }

    /** Shows at most so many wrong answers, from the last showAgain() on. */
    Due(String test, int mostShown) {
        this.test = test;
        this.mostShown = mostShown;
    }

    void showAgain() {
        shown = 0;
    }

    void is(String call, long got, long want) {
        asked++;
        if (got != want) {
            wrong++;
            shown++;
            if (shown <= mostShown) {
                System.out.println(test + ": " + call + " answered " + got + ", due is " + want);
            }
        }
    }

    void holds(String what, boolean holds) {
        is(what, holds ? 1 : 0, 1);
    }

    int asked() {
        return asked;
    }

    void end() {
        System.out.println(test + ": " + asked + " answers, " + wrong + " not as due");
        if (wrong != 0 || asked == 0) {
            System.exit(1);
        }
    }

    /** Types a text on the page of x. */
    static void type(AheadRows x, String text) {
        for (int i = 0; i < text.length(); i++) {
            x.letter(text.charAt(i));
        }
    }

    /** A new object whose rows are those of the text. */
    static AheadRows of(String text) {
        AheadRows x = new AheadRows();
        type(x, text);
        x.rows();
        return x;
    }
}
