/** Promises 31 to 35: what each saw, where to look next, years by a seed. */
public final class SeenTest {
    private static final Due DUE = new Due();

    public static void main(String[] args) {
        see();
        forget();
        fits();
        look();
        drift();
        DUE.finish();
    }

    private static void see() {
        DUE.about("promise 31");
        FloorYears x = Due.of("plain;plain;");
        DUE.is("see(-1, 0, true)", x.see(-1, 0, true), FloorYears.BAD);
        DUE.is("see(2, 0, true)", x.see(2, 0, true), FloorYears.BAD);
        DUE.is("see(0, -1, true)", x.see(0, -1, true), FloorYears.BAD);
        DUE.is("see(0, 10, true)", x.see(0, 10, true), FloorYears.BAD);
        DUE.is("count(0)", x.count(0), 0);
        for (int i = 1; i <= 6; i++) {
            DUE.is("see(1, 9, true)", x.see(1, 9, true), i);
        }
        DUE.is("see(1, 9, true), a seventh", x.see(1, 9, true), FloorYears.FULL);
        DUE.is("see(1, 10, true), a seventh", x.see(1, 10, true), FloorYears.BAD);
        DUE.is("count(0)", x.count(0), 6);
        DUE.is("fits(0)", x.fits(0), 2);
        DUE.is("see(0, 0, true) of nothing", new FloorYears().see(0, 0, true), FloorYears.BAD);
    }

    private static void forget() {
        DUE.about("promise 32");
        FloorYears x = Due.of("plain;plain;plain;");
        x.see(0, 0, true);
        x.see(1, 0, true);
        x.see(2, 0, true);
        DUE.is("forget(-1)", x.forget(-1), FloorYears.BAD);
        DUE.is("forget(4)", x.forget(4), FloorYears.BAD);
        DUE.is("forget(3)", x.forget(3), 3);
        DUE.is("forget(2)", x.forget(2), 3);
        DUE.is("fits(2), by the first ones", x.fits(2), 3);
        DUE.is("forget(3)", x.forget(3), FloorYears.BAD);
        DUE.is("see(2, 0, false)", x.see(2, 0, false), 3);
        DUE.is("forget(0)", x.forget(0), 3);
        DUE.is("count(0)", x.count(0), 0);
        DUE.is("fits(0)", x.fits(0), 8);
        DUE.is("forget(0)", x.forget(0), 0);
    }

    private static void fitsAre(FloorYears x, int... due) {
        for (int what = 0; what < 4; what++) {
            DUE.is("fits(" + what + ")", x.fits(what), due[what]);
        }
    }

    private static void fits() {
        DUE.about("promise 33");
        FloorYears x = Due.of("plain;echo 0;echo 1;so 0;ban 0 1;");
        fitsAre(x, 8, 0, 0, 7);
        x.see(2, 1, true);
        fitsAre(x, 4, 2, 2, 7);
        x.see(2, 2, false);
        fitsAre(x, 2, 2, 2, 6);
        x.see(2, 0, true);
        fitsAre(x, 1, 6, 6, 6);
        x.see(0, 9, true);
        fitsAre(x, 0, -4, -4, -4);
        x.forget(0);
        x.see(0, 9, true);
        fitsAre(x, 4, 1, 1, 7);
        DUE.is("fits(-1)", x.fits(-1), FloorYears.BAD);
        DUE.is("fits(4)", x.fits(4), FloorYears.BAD);
        x.go(3);
        fitsAre(x, 4, 1, 1, 7);
        x.alter(0, 0, 2);
        fitsAre(x, 4, 0, 0, 6);
    }

    private static void lookIs(FloorYears x, int place, int many) {
        DUE.is("look(0)", x.look(0), place);
        DUE.is("look(1)", x.look(1), many);
    }

    private static void look() {
        DUE.about("promise 34");
        FloorYears x = Due.of("plain;echo 0;echo 1;");
        lookIs(x, 0, 4);
        x.see(2, 1, true);
        lookIs(x, 0, 2);
        x.see(2, 2, false);
        lookIs(x, 2, 1);
        x.see(2, 0, true);
        lookIs(x, -4, -4);
        x.see(2, 0, false);
        lookIs(x, -4, -4);
        lookIs(new FloorYears(), -4, -4);
        // {0, 1, 2} is left: whatever one looks at, two may be left at the worst.
        x = Due.of("plain;plain;contrary 0;jealous 1 2;");
        x.see(3, 2, false);
        x.see(2, 0, false);
        x.see(3, 0, false);
        DUE.is("fits(0)", x.fits(0), 3);
        lookIs(x, 0, 2);
        laterIsBetter();
        DUE.is("look(-1)", x.look(-1), FloorYears.BAD);
        DUE.is("look(2)", x.look(2), FloorYears.BAD);
    }

    /** {1, 4, 5, 7} is left: now each thing parts them 3 to 1, behind a year thing 1 parts 2 and 2. */
    private static void laterIsBetter() {
        FloorYears x = Due.of("jealous 1 2;jealous 2 1;contrary 0;");
        x.see(0, 1, false);
        x.see(1, 2, false);
        fitsAre(x, 4, 1, 0, 7);
        lookIs(x, 11, 2);
        // Here it is the last year of all; the model answers the same.
        x = Due.of("contrary 1;contrary 5;echo 2;easy 5 2;easy 3 0;jealous 4 0;");
        x.see(4, 0, true);
        x.see(5, 8, false);
        DUE.is("fits(0)", x.fits(0), 22);
        lookIs(x, 95, 11);
    }

    private static void drift() {
        DUE.about("promise 35");
        FloorYears x = Due.of("plain;plain;plain;ban 0 1;");
        int[] states = {4, 6, 7, 5, 7, 3, 2, 3, 2, 3};
        int[] allowed = {1, 2, 2, 3, 3, 3, 4, 4, 5, 5};
        for (int n = 1; n <= 10; n++) {
            DUE.is("drift(1, " + n + ", 1)", x.drift(1, n, 1), states[n - 1]);
            DUE.is("drift(1, " + n + ", 0)", x.drift(1, n, 0), allowed[n - 1]);
        }
        DUE.is("rule(4)", x.rule(4), 0);
        DUE.is("rule(3)", x.rule(3), 0);
        FloorYears one = Due.of("plain;");
        DUE.is("drift(-5, 59, 1) of one", one.drift(-5, 59, 1), 1);
        DUE.is("drift(-5, 60, 1) of one", one.drift(-5, 60, 1), 0);
        DUE.is("drift(-5, 60, 0) of one", one.drift(-5, 60, 0), 60);
        DUE.is("drift(1, 4, 1), a year behind each undoing",
            Due.of("plain;echo 0;echo 1;").drift(1, 4, 1), 3);
        int[][] bad = {{1, 0, 0}, {1, 61, 0}, {1, -1, 0}, {1, 1, -1}, {1, 1, 2}};
        for (int[] b : bad) {
            String call = "drift(" + b[0] + ", " + b[1] + ", " + b[2] + ")";
            DUE.is(call, x.drift(b[0], b[1], b[2]), FloorYears.BAD);
            DUE.is(call + " of nothing", new FloorYears().drift(b[0], b[1], b[2]), FloorYears.BAD);
        }
        DUE.is("drift(1, 1, 0) of nothing", new FloorYears().drift(1, 1, 0), FloorYears.STATE);
        DUE.is("drift(1, 60, 1) of nothing", new FloorYears().drift(1, 60, 1), FloorYears.STATE);
    }
}
