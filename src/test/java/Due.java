/** Counts and prints the answers that are not as due; a test ends through {@link #finish()}. */
final class Due {
    private int asked;
    private int wrong;
    private String about = "";

    /** What the rows that follow are about, for the printed lines. */
    void about(String words) {
        about = words;
    }

    void is(String call, long got, long want) {
        asked++;
        if (got != want) {
            wrong++;
            System.out.println(about + ": " + call + " answered " + got + ", due is " + want);
        }
    }

    void holds(String what, boolean is) {
        is(what, is ? 1 : 0, 1);
    }

    int asked() {
        return asked;
    }

    /** Adds what was counted here to another count. */
    void finish(Due into) {
        into.asked += asked;
        into.wrong += wrong;
    }

    void finish() {
        System.out.println(asked + " answers, " + wrong + " not as due");
        if (wrong != 0) {
            System.exit(1);
        }
    }

    static void feed(FloorYears x, String text) {
        for (int i = 0; i < text.length(); i++) {
            x.feed(text.charAt(i));
        }
    }

    /** Feeds a text and has it told; what text() answers. */
    static int tell(FloorYears x, String text) {
        feed(x, text);
        return x.text();
    }

    /** A new object that a text has been told. */
    static FloorYears of(String text) {
        FloorYears x = new FloorYears();
        int lines = tell(x, text);
        if (lines < 0) {
            throw new IllegalStateException("a test's own text is refused: " + text);
        }
        return x;
    }
}
