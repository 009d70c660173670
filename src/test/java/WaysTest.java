/** Promises 24 to 27: ways, a law to be amended, a ban more. */
public final class WaysTest {
    private static final Due DUE = new Due();

    public static void main(String[] args) {
        way();
        wayClean();
        wayBad();
        peace();
        oneBehindAnother();
        amend();
        strict();
        DUE.finish();
    }

    /** Years, price, then the guests of the years. */
    private static void wayIs(String text, int f, int v, int... due) {
        FloorYears x = Due.of(text);
        int state = x.rule(4);
        String call = "way(" + f + ", " + v + ", ";
        DUE.is(call + "0) of '" + text + "'", x.way(f, v, 0), due[0]);
        DUE.is(call + "1) of '" + text + "'", x.way(f, v, 1), due[1]);
        for (int i = 0; i < 4; i++) {
            int who = i + 2 < due.length ? due[i + 2] : FloorYears.NONE;
            DUE.is(call + (10 + i) + ") of '" + text + "'", x.way(f, v, 10 + i), who);
        }
        DUE.is("the state behind it", x.rule(4), state);
        DUE.is("the year behind it", x.rule(3), 0);
    }

    private static void way() {
        DUE.about("promise 24");
        wayIs("plain;so 0;", 0, 1, 0, 0);
        wayIs("plain;so 0;", 0, 0, -4, -4);
        wayIs("plain;guest 0 3;", 0, 1, 1, 3, 0);
        wayIs("plain;echo 0;guest 0 5;guest 0 2;", 1, 1, 1, 2, 1);
        wayIs("plain;echo 0;guest 0 2;guest 0 2;", 1, 1, 1, 2, 0);
        // Fewer years go ahead of a lower price.
        wayIs("plain;echo 0;echo 1;guest 1 9;guest 0 0;", 2, 1, 1, 9, 0);
        wayIs("plain;echo 0;echo 1;guest 0 0;", 2, 1, 2, 0, 0, -4);
        wayIs("plain;echo 0;echo 1;echo 2;guest 0 7;", 3, 1, 3, 7, 0, -4, -4);
        wayIs("plain;echo 0;echo 1;echo 2;echo 3;guest 0 7;", 4, 1, 4, 7, 0, -4, -4, -4);
        wayIs("plain;echo 0;echo 1;echo 2;echo 3;echo 4;guest 0 7;", 5, 1, -4, -4);
        // It comes by itself.
        wayIs("plain;echo 0;echo 1;so 0;guest 1 0;", 1, 1, 1, 0, -4);
        wayIs("plain;echo 0;echo 1;so 0;guest 1 0;", 2, 1, 1, 0, 0);
        wayIs("contrary 0;guest 0 0;", 0, 1, 1, 0, -4);
    }

    private static void wayClean() {
        DUE.about("promise 24, clean");
        wayIs("plain;plain;so 0;guest 1 1;ban 0 1;", 1, 1, -4, -4);
        wayIs("plain;plain;so 0;guest 1 1;guest 0 2;ban 0 1;", 1, 1, 2, 3, 1, 0);
        // What is not allowed behind a year is not clean either.
        wayIs("plain;echo 0;plain;so 2;guest 0 1;ban 1 2;", 1, 1, -4, -4);
        wayIs("plain;echo 0;plain;so 2;guest 0 1;guest 2 4;ban 1 2;", 1, 1, 2, 5, 1, 0);
        // Of now nothing is asked, nor of a state that nobody has undone.
        wayIs("plain;plain;so 0;so 1;ban 0 1;", 0, 1, 0, 0);
        wayIs("contrary 0;plain;so 0;so 1;ban 0 1;", 0, 0, 1, 0, -4);
    }

    /** What one search found must not show in the next. */
    private static void oneBehindAnother() {
        DUE.about("promises 24 and 25, one behind another");
        FloorYears x = Due.of("plain;echo 0;plain;contrary 3;guest 0 3;guest 2 0;");
        DUE.is("way(1, 1, 0)", x.way(1, 1, 0), 1);
        DUE.is("way(1, 1, 10)", x.way(1, 1, 10), 0);
        DUE.is("way(2, 1, 10)", x.way(2, 1, 10), 1);
        DUE.is("way(2, 1, 1)", x.way(2, 1, 1), 0);
        DUE.is("way(0, 1, 1)", x.way(0, 1, 1), 3);
        DUE.is("way(0, 0, 0)", x.way(0, 0, 0), 0);
        DUE.is("way(0, 0, 10)", x.way(0, 0, 10), FloorYears.NONE);
        DUE.is("way(1, 1, 10)", x.way(1, 1, 10), 0);
        DUE.is("peace(1, 10)", x.peace(1, 10), FloorYears.NONE);
        DUE.is("peace(1, 0)", x.peace(1, 0), FloorYears.NONE);
        x.forbid(0, 1);
        DUE.is("way(1, 1, 0)", x.way(1, 1, 0), FloorYears.NONE);
        DUE.is("way(1, 1, 10)", x.way(1, 1, 10), FloorYears.NONE);
        x.alter(3, 0, 0);
        DUE.is("peace(1, 0)", x.peace(1, 0), 0);
        DUE.is("way(2, 1, 0)", x.way(2, 1, 0), 1);
    }

    private static void wayBad() {
        DUE.about("promise 24, bad");
        FloorYears x = Due.of("plain;plain;guest 0 1;");
        int[][] bad = {{-1, 1, 0}, {2, 1, 0}, {0, -1, 0}, {0, 2, 0}, {0, 1, -1}, {0, 1, 2}, {0, 1, 9},
            {0, 1, 14}};
        for (int[] b : bad) {
            DUE.is("way(" + b[0] + ", " + b[1] + ", " + b[2] + ")", x.way(b[0], b[1], b[2]),
                FloorYears.BAD);
        }
        DUE.is("way(0, 0, 0) of nothing", new FloorYears().way(0, 0, 0), FloorYears.BAD);
    }

    /** Price, then the guests of the years. */
    private static void peaceIs(String text, int n, int... due) {
        FloorYears x = Due.of(text);
        DUE.is("peace(" + n + ", 0) of '" + text + "'", x.peace(n, 0), due[0]);
        for (int i = 0; i < 4; i++) {
            int who = i + 1 < due.length ? due[i + 1] : FloorYears.NONE;
            DUE.is("peace(" + n + ", " + (10 + i) + ") of '" + text + "'", x.peace(n, 10 + i), who);
        }
    }

    private static void peace() {
        DUE.about("promise 25");
        peaceIs("contrary 1;plain;", 0, -4);
        peaceIs("contrary 1;plain;", 1, 0, -4);
        peaceIs("plain;so 0;guest 0 0;", 4, 0);
        // Nothing agrees while thing 0 is not so; undone at first it takes two years, at 0 1 1 one.
        String restless = "plain;contrary 2;easy 0 1;guest 0 1;guest 0 1;";
        peaceIs(restless, 0, -4);
        peaceIs(restless, 1, -4);
        peaceIs(restless, 2, 1, 0, -4);
        peaceIs(restless, 3, 1, -4, -4, 0);
        peaceIs("plain;contrary 2;easy 0 1;guest 0 2;guest 0 1;", 3, 1, -4, -4, 1);
        peaceIs("plain;contrary 2;easy 0 1;guest 0 1;ban 0 1;", 3, -4);
        peaceIs("plain;plain;so 0;so 1;ban 0 1;", 0, 0);
        peaceIs("plain;plain;so 0;so 1;ban 0 1;", 1, -4);
        peaceIs("", 4, 0);
        FloorYears x = Due.of(restless);
        int[][] bad = {{-1, 0}, {5, 0}, {0, -1}, {0, 1}, {0, 2}, {0, 9}, {0, 14}};
        for (int[] b : bad) {
            DUE.is("peace(" + b[0] + ", " + b[1] + ")", x.peace(b[0], b[1]), FloorYears.BAD);
        }
    }

    private static void amendIs(String text, int place, int many) {
        FloorYears x = Due.of(text);
        int[] was = new int[x.rule(0)];
        for (int f = 0; f < was.length; f++) {
            was[f] = x.thing(f, 1);
        }
        DUE.is("amend(0) of '" + text + "'", x.amend(0), place);
        DUE.is("amend(1) of '" + text + "'", x.amend(1), many);
        for (int f = 0; f < was.length; f++) {
            DUE.is("thing(" + f + ", 1) behind it", x.thing(f, 1), was[f]);
        }
    }

    private static void amend() {
        DUE.about("promise 26");
        amendIs("plain;contrary 1;", 10, 2);
        amendIs("plain;plain;", -4, -4);
        amendIs("plain;echo 0;", 11, 4);
        amendIs("echo 1;plain;", 0, 4);
        amendIs("contrary 0;plain;plain;", 1, 4);
        amendIs("plain;contrary 1;contrary 2;", -4, -4);
        amendIs("plain;plain;contrary 2;", 20, 4);
        amendIs("plain;plain;contrary 2;ban 0 1;", 20, 3);
        amendIs("plain;plain;contrary 2;ban 1 2;", 21, 4);
        DUE.is("amend(-1)", new FloorYears().amend(-1), FloorYears.BAD);
        DUE.is("amend(2)", new FloorYears().amend(2), FloorYears.BAD);
    }

    private static void strictIs(String text, int place, int many) {
        FloorYears x = Due.of(text);
        int bans = x.rule(2);
        DUE.is("strict(0) of '" + text + "'", x.strict(0), place);
        DUE.is("strict(1) of '" + text + "'", x.strict(1), many);
        DUE.is("rule(2) behind it", x.rule(2), bans);
    }

    private static void strict() {
        DUE.about("promise 27");
        strictIs("plain;plain;plain;", 1, 6);
        strictIs("plain;echo 0;plain;", 1, 2);
        strictIs("plain;echo 0;", 1, 1);
        strictIs("plain;plain;echo 1;", 12, 2);
        strictIs("plain;plain;plain;ban 1 0;", 2, 5);
        // The one state that agrees has 0 and 1 so: no ban may take it.
        strictIs("contrary 2;contrary 2;jealous 0 0;", -4, -4);
        strictIs("contrary 0;plain;", -4, -4);
        strictIs("plain;", -4, -4);
        // A ban more is but thought of: that there are four already does not hinder it.
        strictIs("plain;plain;plain;ban 0 1;ban 0 1;ban 0 1;ban 0 1;", 2, 5);
        DUE.is("strict(-1)", new FloorYears().strict(-1), FloorYears.BAD);
        DUE.is("strict(2)", new FloorYears().strict(2), FloorYears.BAD);
    }
}
