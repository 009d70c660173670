/** The edges of ways, of laws and bans that might be, and of slips, promises 24 to 30. */
final class EdgesOfWays extends Edges {
    /** Undone at a price of 9, thing 0 takes as many years to be heard as there are echoes behind it. */
    private static final String CHAIN = "plain;echo 0;echo 1;echo 2;echo 3;echo 4;guest 0 9;";
    private static final int[] WHATS = {0, 1, 10, 11, 12, 13};

    EdgesOfWays(Due due, Doc doc) {
        super(due, doc);
    }

    @Override
    void test() {
        wayYears();
        wayGuests();
        wayClean();
        wayBad();
        wayNone();
        peaceYears();
        peaceGuests();
        peaceBad();
        amend();
        amendNone();
        strict();
        strictNone();
        lowestTerms();
        luck();
        calm();
        mean();
    }

    private void wayIs(String text, int f, int v, int... due) {
        FloorYears x = Due.of(text);
        for (int i = 0; i < WHATS.length; i++) {
            int what = WHATS[i];
            is("way(" + f + ", " + v + ", " + what + ") of '" + text + "'", x.way(f, v, what),
                i < due.length ? due[i] : NONE);
        }
    }

    private void wayYears() {
        said(24, "The CLEAN WAY of fewest YEARS (0 to 4) behind which a THING is SO (v 1), or not (0), of several the "
            + "cheapest, of these the first: how many YEARS (what 0), all PRICES (1);");
        said(Doc.TERMS, "A WAY of n YEARS (0 to 4): ahead of each a GUEST UNDOES his THING, or nobody does; then that YEAR goes.");
        wayIs(CHAIN, 0, 0, 0, 0);
        wayIs(CHAIN, 0, 1, 1, 9, 0);
        wayIs(CHAIN, 1, 1, 1, 9, 0);
        wayIs(CHAIN, 2, 1, 2, 9, 0);
        wayIs(CHAIN, 3, 1, 3, 9, 0);
        wayIs(CHAIN, 4, 1, 4, 9, 0);
        // It would take five.
        wayIs(CHAIN, 5, 1, NONE, NONE);
        wayIs(CHAIN, 5, 0, 0, 0);
        // Each year somebody must come, or 0 and 1 are so at once: a fourth year, all at 9.
        wayIs("easy 2 1;easy 2 3;contrary 0;contrary 3;so 2;guest 2 9;ban 1 0;", 2, 0, 4, 36, 0, 0, 0, 0);
        wayIs("plain;guest 0 0;", 0, 1, 1, 0, 0);
        wayIs("plain;guest 0 3;guest 0 2;guest 0 2;guest 0 9;", 0, 1, 1, 2, 1);
        is("way(0, 1, 1) in year 999, for no year goes", goTo(Due.of("plain;guest 0 9;"), 999).way(0, 1, 1), 9);
    }

    private void wayGuests() {
        said(24, "10 and i: the GUEST of its i-th YEAR (NONE: nobody, not so many).");
        said(Doc.TERMS, "WAYS are told by rows, nobody ahead of GUESTS by order.");
        // Nobody, then the last of four: of all that cost nothing the first by rows.
        wayIs("plain;echo 0;plain;so 0;guest 2 0;guest 2 0;guest 2 0;guest 1 0;", 1, 1, 1, 0);
        wayIs("plain;plain;guest 1 0;guest 1 0;guest 1 0;guest 0 0;", 0, 1, 1, 0, 3);
        wayIs("plain;echo 0;echo 1;guest 0 0;", 2, 1, 2, 0, 0, NONE);
        wayIs("plain;plain;so 0;guest 1 1;guest 0 2;ban 0 1;", 1, 1, 2, 3, 1, 0);
        wayIs("plain;plain;", 1, 1, NONE, NONE, NONE, NONE, NONE, NONE);
        // An unneeded guest who costs nothing stands behind nobody.
        wayIs("contrary 0;plain;guest 1 0;", 0, 1, 1, 0, NONE);
    }

    private void wayClean() {
        said(Doc.TERMS, "It is CLEAN, if each STATE behind an UNDOING and behind a YEAR is ALLOWED.");
        // Behind the undoing.
        wayIs("jealous 0 0;plain;echo 0;so 1;guest 0 1;", 2, 1, 1, 1, 0);
        wayIs("jealous 0 0;plain;echo 0;so 1;guest 0 1;ban 0 1;", 2, 1, NONE, NONE);
        // Behind the year, the last one too.
        wayIs("plain;echo 0;plain;so 2;guest 0 1;ban 1 2;", 1, 1, NONE, NONE);
        // A way of no years has no such state, and a state that nobody undoes is not asked.
        wayIs("plain;plain;so 0;so 1;ban 0 1;", 0, 1, 0, 0);
        wayIs("contrary 0;plain;so 0;so 1;ban 0 1;", 0, 0, 1, 0, NONE);
    }

    private void wayBad() {
        said(24, "BAD;");
        for (int things = 0; things <= 6; things++) {
            House house = House.of(plain(things));
            bad(house, "way(#, 0, 0)", 0, things - 1, (x, f) -> x.way(f, 0, 0));
            bad(house, "way(#, 1, 13)", 0, things - 1, (x, f) -> x.way(f, 1, 13));
        }
        bad(House.RICH, "way(0, #, 0)", 0, 1, (x, v) -> x.way(0, v, 0));
        bad(House.RICH, "way(5, #, 10)", 0, 1, (x, v) -> x.way(5, v, 10));
        bad(House.RICH, "way(5, 1, #)", 0, 13, (x, what) -> x.way(5, 1, what));
        for (int what = 2; what < 10; what++) {
            int w = what;
            still(House.RICH, call("way(5, 1, " + w + ")", x -> x.way(5, 1, w), BAD));
        }
        FloorYears x = House.RICH.make();
        still(House.RICH, call("way(5, 1, 0)", y -> y.way(5, 1, 0), x.way(5, 1, 0)),
            call("way(5, 0, 13)", y -> y.way(5, 0, 13), x.way(5, 0, 13)));
    }

    private void wayNone() {
        said(24, "NONE (0, 1): by none.");
        wayIs("plain;", 0, 1, NONE, NONE);
        wayIs("plain;so 0;", 0, 0, NONE, NONE);
        wayIs("jealous 0 0;guest 0 0;", 0, 1, NONE, NONE);
        // There is a way for 0 and for 1, but none for 2: nobody, whoever was told before.
        still(House.of("plain;echo 0;jealous 2 2;guest 0 3;"), call("way(1, 1, 10)", x -> x.way(1, 1, 10), 0),
            call("way(2, 1, 10)", x -> x.way(2, 1, 10), NONE), call("way(2, 1, 0)", x -> x.way(2, 1, 0), NONE),
            call("way(0, 1, 10)", x -> x.way(0, 1, 10), 0), call("way(2, 1, 1)", x -> x.way(2, 1, 1), NONE));
    }

    private void peaceIs(String text, int n, int... due) {
        FloorYears x = Due.of(text);
        is("peace(" + n + ", 0) of '" + text + "'", x.peace(n, 0), due[0]);
        for (int i = 0; i < 4; i++) {
            is("peace(" + n + ", " + (10 + i) + ") of '" + text + "'", x.peace(n, 10 + i),
                i + 1 < due.length ? due[i + 1] : NONE);
        }
    }

    private void peaceYears() {
        said(25, "The cheapest CLEAN WAY of just n YEARS (0 to 4) behind which the STATE AGREES, of several the first: all "
            + "PRICES (what 0);");
        for (int n = 0; n <= 4; n++) {
            peaceIs("plain;guest 0 0;", n, 0);
            peaceIs("contrary 0;guest 0 0;", n, NONE);
            // All so is what agrees; each year one more echo hears it.
            peaceIs("plain;echo 0;echo 1;echo 2;echo 3;so 0;", n, n == 4 ? 0 : NONE);
        }
        peaceIs("plain;echo 0;echo 1;echo 2;echo 3;echo 4;so 0;", 4, NONE);
        peaceIs("contrary 1;echo 2;contrary 3;echo 0;so 1;so 2;guest 2 9;ban 2 1;", 4, 36, 0, 0, 0, 0);
        // Of now nothing is asked but that it agrees.
        peaceIs("plain;plain;so 0;so 1;ban 0 1;", 0, 0);
        peaceIs("plain;plain;so 0;so 1;ban 0 1;", 1, NONE);
        is("peace(4, 0) in year 999, for no year goes", goTo(Due.of(plain(6)), 999).peace(4, 0), 0);
    }

    private void peaceGuests() {
        said(25, "10 and i: the GUEST of its i-th YEAR (NONE: nobody, not so many).");
        String restless = "plain;contrary 2;easy 0 1;guest 0 1;guest 0 1;";
        peaceIs(restless, 2, 1, 0, NONE);
        peaceIs(restless, 3, 1, NONE, NONE, 0);
        peaceIs("plain;contrary 2;easy 0 1;guest 0 2;guest 0 1;", 3, 1, NONE, NONE, 1);
        peaceIs("plain;so 0;guest 0 0;", 4, 0, NONE, NONE, NONE, NONE);
    }

    private void peaceBad() {
        said(25, "BAD; NONE (0): by none.");
        for (House house : new House[] {House.EMPTY, House.RICH, House.FULL}) {
            bad(house, "peace(#, 0)", 0, 4, (x, n) -> x.peace(n, 0));
            bad(house, "peace(#, 10)", 0, 4, (x, n) -> x.peace(n, 10));
            bad(house, "peace(4, #)", 0, 13, (x, what) -> x.peace(4, what));
            for (int what = 1; what < 10; what++) {
                int w = what;
                still(house, call("peace(4, " + w + ")", x -> x.peace(4, w), BAD));
            }
        }
        peaceIs("contrary 0;", 0, NONE);
        peaceIs("contrary 0;", 4, NONE);
        // By two years there is one, by one there is none: nobody, whoever was told before.
        still(House.of("plain;contrary 2;easy 0 1;guest 0 1;"), call("peace(2, 10)", x -> x.peace(2, 10), 0),
            call("peace(1, 10)", x -> x.peace(1, 10), NONE), call("peace(1, 0)", x -> x.peace(1, 0), NONE),
            call("peace(2, 0)", x -> x.peace(2, 0), 1));
    }

    private void amendIs(String text, int place, int many) {
        House house = House.of(text);
        still(house, call("amend(0) of '" + text + "'", x -> x.amend(0), place),
            call("amend(1) of '" + text + "'", x -> x.amend(1), many));
    }

    private void amend() {
        said(26, "The THING of which FIRST is to be another THING so that most STATES AGREE (ALLOWED), more than now: 10 "
            + "times it and its new FIRST, of several the least (what 0), how many then (1). BAD;");
        amendIs("echo 1;plain;", 0, 4);
        // By 5 itself all 64 agree, by another one but half of them.
        amendIs(plain(5) + "echo 0;", 55, 64);
        amendIs("echo 5;" + plain(5), 0, 64);
        amendIs("contrary 0;" + plain(5), 1, 32);
        // Not allowed ones are not counted: so 21 is better than 20.
        amendIs("plain;plain;contrary 2;", 20, 4);
        amendIs("plain;plain;contrary 2;ban 1 2;", 21, 4);
        for (House house : new House[] {House.EMPTY, House.RICH, House.FULL}) {
            bad(house, "amend(#)", 0, 1, FloorYears::amend);
        }
    }

    private void amendNone() {
        said(26, "NONE: by none.");
        amendIs("", NONE, NONE);
        amendIs("plain;", NONE, NONE);
        amendIs("contrary 0;", NONE, NONE);
        amendIs(plain(6), NONE, NONE);
        // As many as now are not more.
        amendIs("plain;plain;contrary 0;", NONE, NONE);
        // Two would have to be amended.
        amendIs("contrary 0;contrary 1;plain;", NONE, NONE);
    }

    private void strictIs(String text, int place, int many) {
        House house = House.of(text);
        still(house, call("strict(0) of '" + text + "'", x -> x.strict(0), place),
            call("strict(1) of '" + text + "'", x -> x.strict(1), many));
    }

    private void strict() {
        said(27, "The BAN more by which fewest STATES AGREE (ALLOWED), but one at least, fewer than now: 10 times the lesser "
            + "THING and the greater, of several the least (what 0), how many then (1). BAD;");
        strictIs("plain;plain;", 1, 3);
        strictIs("plain;echo 0;", 1, 1);
        strictIs(plain(6), 1, 48);
        // 4 and 5 are so together in half of them, others in a quarter.
        strictIs(plain(5) + "echo 4;", 45, 16);
        // A ban that there is already takes nothing more; four do not hinder a thought.
        strictIs("plain;plain;plain;ban 0 1;", 2, 5);
        strictIs("plain;plain;plain;ban 0 1;ban 0 1;ban 1 0;ban 0 1;", 2, 5);
        for (House house : new House[] {House.EMPTY, House.RICH, House.FULL}) {
            bad(house, "strict(#)", 0, 1, FloorYears::strict);
        }
    }

    private void strictNone() {
        said(27, "NONE: by none.");
        strictIs("", NONE, NONE);
        strictIs("plain;", NONE, NONE);
        strictIs("contrary 0;plain;", NONE, NONE);
        // The one that agrees has 0 and 1 so: by a ban there would be none at all.
        strictIs("contrary 2;contrary 2;jealous 0 0;", NONE, NONE);
        strictIs("plain;plain;ban 0 1;", NONE, NONE);
    }

    private static long divisor(long a, long b) {
        return b == 0 ? a : divisor(b, a % b);
    }

    private void fraction(String call, long gotTop, long gotBelow, long top, long below) {
        long shared = divisor(top, below);
        is(call + ", 0", gotTop, top / shared);
        is(call + ", 1", gotBelow, below / shared);
    }

    private static long power(long base, int times) {
        return times == 0 ? 1 : base * power(base, times - 1);
    }

    private void lowestTerms() {
        said(Doc.TERMS, "Fractions are in lowest terms, the denominator above 0 (0 is 0 by 1).");
        FloorYears never = Due.of("plain;plain;so 0;so 1;ban 0 1;");
        are("luck(0, #)", never, (x, what) -> x.luck(0, what), 0, 1);
        are("luck(10, #)", never, (x, what) -> x.luck(10, what), 1, 1);
        are("luck(5, #)", never, (x, what) -> x.luck(5, what), 3, 4);
        are("calm(5, #)", Due.of("contrary 0;"), (x, what) -> x.calm(5, what), 0, 1);
        are("mean(0, #)", Due.of(plain(6)), (x, what) -> x.mean(0, what), 0, 1);
        are("mean(10, #)", Due.of(plain(6)), (x, what) -> x.mean(10, what), 6, 1);
        are("mean(5, #)", Due.of(plain(6)), (x, what) -> x.mean(5, what), 3, 1);
        are("mean(5, #)", Due.of(plain(5)), (x, what) -> x.mean(5, what), 5, 2);
    }

    private void luck() {
        said(28, "NEXT YEAR each THING slips by v out of ten (0 to 10), by itself (it is UNDONE then): that the STATE is "
            + "ALLOWED then: 0, 1. BAD.");
        for (int v = 0; v <= 10; v++) {
            FloorYears x = Due.of(plain(6) + "so 0;so 5;ban 0 5;");
            fraction("luck(" + v, x.luck(v, 0), x.luck(v, 1), 100 - (10 - v) * (10 - v), 100);
            x = Due.of(plain(6) + "ban 0 1;ban 2 3;ban 4 5;");
            fraction("luck(" + v, x.luck(v, 0), x.luck(v, 1), power(100 - v * v, 3), 1000000);
            x = Due.of(plain(6));
            fraction("luck(" + v, x.luck(v, 0), x.luck(v, 1), 1, 1);
        }
        for (House house : new House[] {House.EMPTY, House.RICH, House.FULL}) {
            bad(house, "luck(#, 0)", 0, 10, (x, v) -> x.luck(v, 0));
            bad(house, "luck(#, 1)", 0, 10, (x, v) -> x.luck(v, 1));
            bad(house, "luck(10, #)", 0, 1, (x, what) -> x.luck(10, what));
        }
    }

    private void calm() {
        said(29, "Likewise, that it AGREES then: 0, 1. BAD.");
        for (int v = 0; v <= 10; v++) {
            // Nothing is so next year, and it agrees if nothing slips.
            FloorYears x = Due.of("jealous 0 0;".repeat(6) + "so 0;");
            fraction("calm(" + v, x.calm(v, 0), x.calm(v, 1), power(10 - v, 6), 1000000);
            x = Due.of(plain(6));
            fraction("calm(" + v, x.calm(v, 0), x.calm(v, 1), 1, 1);
            // Whether it is allowed is not asked.
            x = Due.of(plain(2) + "so 0;so 1;ban 0 1;");
            fraction("calm(" + v, x.calm(v, 0), x.calm(v, 1), 1, 1);
        }
        for (House house : new House[] {House.EMPTY, House.RICH, House.FULL}) {
            bad(house, "calm(#, 0)", 0, 10, (x, v) -> x.calm(v, 0));
            bad(house, "calm(#, 1)", 0, 10, (x, v) -> x.calm(v, 1));
            bad(house, "calm(0, #)", 0, 1, (x, what) -> x.calm(0, what));
        }
    }

    private void mean() {
        said(30, "Likewise, the mean of how many THINGS are SO then: 0, 1. BAD.");
        for (int v = 0; v <= 10; v++) {
            FloorYears x = Due.of("plain;so 0;");
            fraction("mean(" + v, x.mean(v, 0), x.mean(v, 1), 10 - v, 10);
            x = Due.of("contrary 0;".repeat(6));
            fraction("mean(" + v, x.mean(v, 0), x.mean(v, 1), 6 * (10 - v), 10);
            x = Due.of(plain(6) + "so 5;");
            fraction("mean(" + v, x.mean(v, 0), x.mean(v, 1), 10 - v + 5 * v, 10);
            is("mean(" + v + ", 0) of no things", new FloorYears().mean(v, 0), 0);
            is("mean(" + v + ", 1) of no things", new FloorYears().mean(v, 1), 1);
        }
        for (House house : new House[] {House.EMPTY, House.RICH, House.FULL}) {
            bad(house, "mean(#, 0)", 0, 10, (x, v) -> x.mean(v, 0));
            bad(house, "mean(#, 1)", 0, 10, (x, v) -> x.mean(v, 1));
            bad(house, "mean(5, #)", 0, 1, (x, what) -> x.mean(5, what));
        }
    }
}
