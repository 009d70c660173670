/** Promises 28 to 30: things that slip by odds. */
public final class SlipsTest {
    private static final Due DUE = new Due();

    public static void main(String[] args) {
        luck();
        calm();
        mean();
        bad();
        DUE.finish();
    }

    private static void luckIs(FloorYears x, int v, long top, long below) {
        DUE.is("luck(" + v + ", 0)", x.luck(v, 0), top);
        DUE.is("luck(" + v + ", 1)", x.luck(v, 1), below);
    }

    private static void luck() {
        DUE.about("promise 28");
        FloorYears x = Due.of("plain;plain;so 0;so 1;ban 0 1;");
        luckIs(x, 0, 0, 1);
        luckIs(x, 1, 19, 100);
        luckIs(x, 2, 9, 25);
        luckIs(x, 5, 3, 4);
        luckIs(x, 10, 1, 1);
        luckIs(new FloorYears(), 3, 1, 1);
        // It is next year's state that slips, not the one now.
        luckIs(Due.of("plain;echo 0;so 0;ban 0 1;"), 0, 0, 1);
        luckIs(Due.of("plain;plain;plain;plain;plain;plain;so 0;so 1;ban 0 1;"), 3, 51, 100);
        luckIs(Due.of("plain;plain;plain;plain;plain;plain;ban 0 1;ban 2 3;ban 4 5;"), 1, 970299, 1000000);
    }

    private static void calmIs(FloorYears x, int v, long top, long below) {
        DUE.is("calm(" + v + ", 0)", x.calm(v, 0), top);
        DUE.is("calm(" + v + ", 1)", x.calm(v, 1), below);
    }

    private static void calm() {
        DUE.about("promise 29");
        FloorYears x = Due.of("contrary 1;plain;");
        calmIs(x, 0, 1, 1);
        calmIs(x, 1, 41, 50);
        calmIs(x, 5, 1, 2);
        calmIs(x, 10, 1, 1);
        calmIs(Due.of("contrary 0;"), 4, 0, 1);
        // Whether it is allowed is not asked.
        calmIs(Due.of("plain;plain;so 0;so 1;ban 0 1;"), 0, 1, 1);
        calmIs(Due.of("jealous 0 0;".repeat(6)), 1, 531441, 1000000);
        calmIs(new FloorYears(), 9, 1, 1);
    }

    private static void meanIs(FloorYears x, int v, long top, long below) {
        DUE.is("mean(" + v + ", 0)", x.mean(v, 0), top);
        DUE.is("mean(" + v + ", 1)", x.mean(v, 1), below);
    }

    private static void mean() {
        DUE.about("promise 30");
        FloorYears x = Due.of("plain;plain;plain;so 0;");
        meanIs(x, 0, 1, 1);
        meanIs(x, 2, 6, 5);
        meanIs(x, 10, 2, 1);
        meanIs(Due.of("plain;so 0;"), 3, 7, 10);
        meanIs(Due.of("plain;so 0;"), 10, 0, 1);
        meanIs(Due.of("plain;echo 0;so 0;ban 0 1;"), 1, 9, 5);
        meanIs(Due.of("contrary 0;".repeat(6)), 0, 6, 1);
        meanIs(Due.of("plain;".repeat(6)), 3, 9, 5);
        meanIs(new FloorYears(), 5, 0, 1);
    }

    private static void bad() {
        DUE.about("promises 28 to 30, bad");
        FloorYears x = Due.of("plain;plain;ban 0 1;");
        int[][] bad = {{-1, 0}, {11, 0}, {0, -1}, {0, 2}, {-1, 1}, {11, 1}};
        for (int[] b : bad) {
            DUE.is("luck(" + b[0] + ", " + b[1] + ")", x.luck(b[0], b[1]), FloorYears.BAD);
            DUE.is("calm(" + b[0] + ", " + b[1] + ")", x.calm(b[0], b[1]), FloorYears.BAD);
            DUE.is("mean(" + b[0] + ", " + b[1] + ")", x.mean(b[0], b[1]), FloorYears.BAD);
        }
        x.luck(5, 0);
        x.calm(5, 0);
        x.mean(5, 0);
        DUE.is("rule(4)", x.rule(4), 0);
        DUE.is("rule(3)", x.rule(3), 0);
    }
}
