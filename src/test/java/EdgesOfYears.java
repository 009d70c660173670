/** The edges of years, rings, what agrees and what could have been, promises 15 to 23. */
final class EdgesOfYears extends Edges {
    /** One thing is so, 0, then 2, then 1, and again. */
    private static final String TURN = "echo 1;echo 2;echo 0;so 0;";
    private static final int[] TURNED = {1, 4, 2};

    EdgesOfYears(Due due, Doc doc) {
        super(due, doc);
    }

    @Override
    void test() {
        goYears();
        goFull();
        ahead();
        next();
        ringTerms();
        ring();
        rings();
        agree();
        agreeNone();
        before();
        gardens();
        clash();
    }

    private void goYears() {
        said(15, "n YEARS go (0 to 99): the STATE then. BAD;");
        for (int n = 0; n <= 99; n++) {
            FloorYears x = Due.of(TURN);
            is("go(" + n + ")", x.go(n), TURNED[n % 3]);
            is("rule(3)", x.rule(3), n);
            is("rule(4)", x.rule(4), TURNED[n % 3]);
        }
        for (House house : new House[] {House.EMPTY, House.RICH, House.FULL}) {
            bad(house, "go(#)", 0, 99, FloorYears::go);
            still(house, call("go(0)", x -> x.go(0), house.make().rule(4)));
        }
        is("go(99) of no things", new FloorYears().go(99), 0);
        // A year may break a ban.
        is("go(1)", Due.of("plain;echo 0;so 0;ban 0 1;").go(1), 3);
    }

    private void goFull() {
        said(15, "FULL: YEAR would be 1000 or more.");
        House at900 = new House(() -> goTo(Due.of(TURN), 900));
        is("go(99) in 900", at900.make().go(99), TURNED[0]);
        House at901 = new House(() -> goTo(Due.of(TURN), 901));
        still(at901, call("go(99) in 901", x -> x.go(99), FULL));
        FloorYears x = at901.make();
        is("go(98) in 901", x.go(98), TURNED[0]);
        is("rule(3)", x.rule(3), 999);
        House at998 = new House(() -> goTo(Due.of(TURN), 998));
        still(at998, call("go(2) in 998", y -> y.go(2), FULL), call("go(99) in 998", y -> y.go(99), FULL),
            call("go(0) in 998", y -> y.go(0), TURNED[998 % 3]));
        x = at998.make();
        is("go(1) in 998", x.go(1), TURNED[0]);
        is("rule(3)", x.rule(3), 999);
        House at999 = new House(() -> goTo(Due.of(TURN), 999));
        still(at999, call("go(1) in 999", y -> y.go(1), FULL), call("go(99) in 999", y -> y.go(99), FULL),
            call("go(0) in 999", y -> y.go(0), TURNED[0]), call("go(100), BAD ahead of FULL", y -> y.go(100), BAD),
            call("go(-1), BAD ahead of FULL", y -> y.go(-1), BAD),
            call("go(greatest), BAD ahead of FULL", y -> y.go(GREATEST), BAD));
        still(House.FULL, call("go(1)", y -> y.go(1), FULL), call("go(99)", y -> y.go(99), FULL));
    }

    private void ahead() {
        said(16, "The STATE behind n YEARS (0 to 99). BAD.");
        House late = new House(() -> goTo(Due.of(TURN), 999));
        for (int n = 0; n <= 99; n++) {
            is("ahead(" + n + ")", Due.of(TURN).ahead(n), TURNED[n % 3]);
            is("ahead(" + n + ") in 999", late.make().ahead(n), TURNED[n % 3]);
        }
        for (House house : new House[] {House.EMPTY, House.RICH, House.FULL}) {
            bad(house, "ahead(#)", 0, 99, FloorYears::ahead);
        }
        still(late, call("ahead(99), no year goes", x -> x.ahead(99), TURNED[0]),
            call("ahead(1), no year goes", x -> x.ahead(1), TURNED[1]));
    }

    private void next() {
        said(17, "The STATE that comes NEXT YEAR of a STATE (bits of THINGS that there are). BAD.");
        for (int things = 0; things <= 6; things++) {
            House house = House.of("contrary 0;".repeat(things));
            int states = 1 << things;
            bad(house, "next(#) of " + things, 0, states - 1, FloorYears::next);
            FloorYears x = house.make();
            is("next(0) of " + things, x.next(0), states - 1);
            is("next(last) of " + things, x.next(states - 1), 0);
            is("next(the last one alone) of " + things, x.next(states / 2), things == 1 || things == 0 ? 0 : states - 1);
            still(house, call("next(0)", y -> y.next(0), states - 1));
        }
    }

    private void ringTerms() {
        said(Doc.TERMS, "======== 2 AGREES does a STATE, if it is NEXT YEAR as it is. A RING: STATES that come one behind "
            + "another NEXT YEAR and again and again, as short as may be (one that AGREES is a RING of 1).");
        is("rule(6) of one that agrees", Due.of("plain;so 0;").rule(6), 1);
        is("ring(1) of it", Due.of("plain;so 0;").ring(1), 1);
        is("rule(6) of one that does not", Due.of("contrary 0;").rule(6), 0);
        is("ring(1) of it", Due.of("contrary 0;").ring(1), 2);
        is("ring(1), as short as may be", Due.of(TURN).ring(1), 3);
        is("ring(1), none so", Due.of("echo 1;echo 2;echo 0;").ring(1), 1);
    }

    private void ringIs(String text, int... due) {
        are("ring(#) of '" + text + "'", Due.of(text), FloorYears::ring, due[0], due[1], due[2], due[3], BAD);
    }

    private void ring() {
        said(18, "From now on: behind how many YEARS first a STATE of a RING comes (what 0), of how many STATES that RING "
            + "is (1), THINGS that are SO in all of these (2), in some (3; bits). BAD.");
        ringIs("", 0, 1, 0, 0);
        ringIs("plain;", 0, 1, 0, 0);
        ringIs("plain;so 0;", 0, 1, 1, 1);
        ringIs("plain;plain;plain;plain;plain;plain;so 0;so 1;so 2;so 3;so 4;so 5;", 0, 1, 63, 63);
        ringIs("jealous 0 0;so 0;", 1, 1, 0, 0);
        ringIs("jealous 0 0;echo 0;echo 1;echo 2;echo 3;echo 4;so 0;", 6, 1, 0, 0);
        ringIs("contrary 0;plain;plain;plain;plain;plain;so 5;", 0, 2, 32, 33);
        ringIs(TURN + "plain;so 3;", 0, 3, 8, 15);
        // The longest that was found among many houses, in the ring and on the way to it.
        is("ring(0) of a long way", Due.of("contrary 1;contrary 4;easy 0 3;echo 0;echo 5;echo 2;so 1;so 3;").ring(0), 26);
        FloorYears x = Due.of("jealous 3 0;contrary 2;echo 1;contrary 5;jealous 0 3;easy 0 4;");
        is("ring(0)", x.ring(0), 0);
        is("ring(1) of a long ring", x.ring(1), 36);
        is("rings(3)", x.rings(3), 36);
        for (House house : new House[] {House.EMPTY, House.RICH, House.FULL}) {
            bad(house, "ring(#)", 0, 3, FloorYears::ring);
        }
        // A ring is a ring, though a ban is broken in it.
        ringIs("plain;plain;so 0;so 1;ban 0 1;", 0, 1, 3, 3);
    }

    private void ringsAre(String text, int... due) {
        are("rings(#) of '" + text + "'", Due.of(text), FloorYears::rings, due[0], due[1], due[2], due[3], BAD);
    }

    private void rings() {
        said(19, "RINGS that there are at all: how many (what 0), of how many STATES the shortest is (1), the least STATE "
            + "of the shortest (of several the least of all; 2), of how many the longest is (3). BAD.");
        ringsAre("", 1, 1, 0, 1);
        ringsAre(plain(6), 64, 1, 0, 1);
        ringsAre("jealous 0 0;".repeat(6), 1, 1, 0, 1);
        ringsAre("contrary 0;".repeat(6), 1, 2, 0, 2);
        ringsAre("contrary 0;plain;", 2, 2, 0, 2);
        // 1 and 2 agree, 0 and 3 change: of the shortest ones the least is 1.
        ringsAre("contrary 1;contrary 0;", 3, 1, 1, 2);
        ringsAre("easy 0 1;easy 0 1;contrary 2;", 2, 2, 0, 2);
        // All come to what has all so but 1.
        ringsAre("contrary 1;jealous 1 1;contrary 1;contrary 1;contrary 1;contrary 1;", 1, 1, 61, 1);
        ringsAre("echo 1;echo 2;echo 0;", 4, 1, 0, 3);
        for (House house : new House[] {House.EMPTY, House.RICH, House.FULL}) {
            bad(house, "rings(#)", 0, 3, FloorYears::rings);
        }
    }

    private void agreeIs(String text, int... due) {
        are("agree(#) of '" + text + "'", Due.of(text), FloorYears::agree, due[0], due[1], due[2], due[3], BAD);
    }

    private void agree() {
        said(20, "STATES that AGREE and are ALLOWED: how many (what 0), the least (1), THINGS that are SO in all of "
            + "them (2), in some (3; bits). BAD;");
        agreeIs("", 1, 0, 0, 0);
        agreeIs(plain(6), 64, 0, 0, 63);
        agreeIs(plain(6) + "ban 0 1;ban 2 3;ban 4 5;", 27, 0, 0, 63);
        agreeIs("jealous 0 0;" + "contrary 0;".repeat(5), 1, 62, 62, 62);
        for (House house : new House[] {House.EMPTY, House.RICH, House.FULL}) {
            bad(house, "agree(#)", 0, 3, FloorYears::agree);
        }
    }

    private void agreeNone() {
        said(20, "NONE (1 to 3): there are none.");
        agreeIs("contrary 0;", 0, NONE, NONE, NONE);
        // One agrees, but it is not allowed.
        agreeIs("jealous 0 0;contrary 0;contrary 0;ban 1 2;", 0, NONE, NONE, NONE);
        agreeIs("jealous 0 0;contrary 0;contrary 0;ban 0 2;", 1, 6, 6, 6);
    }

    private void before() {
        said(21, "STATES of which a STATE could come (NEXT YEAR): how many (what 0), the least (1). BAD;");
        for (int things = 0; things <= 6; things++) {
            House house = House.of("jealous 0 0;".repeat(things));
            int states = 1 << things;
            bad(house, "before(#, 0) of " + things, 0, states - 1, (x, s) -> x.before(s, 0));
            bad(house, "before(#, 1) of " + things, 0, states - 1, (x, s) -> x.before(s, 1));
            bad(house, "before(0, #) of " + things, 0, 1, (x, what) -> x.before(0, what));
            is("before(0, 0), of all", house.make().before(0, 0), states);
            is("before(0, 1), of all", house.make().before(0, 1), 0);
        }
        is("before(0, 1), of those with 0 so", Due.of("contrary 0;".repeat(6) + "ban 0 5;").before(0, 1), 1);
        is("before(63, 0), of itself", Due.of(plain(6)).before(63, 0), 1);
        is("before(63, 1), of itself", Due.of(plain(6)).before(63, 1), 63);
        said(21, "NONE (1): none.");
        FloorYears x = Due.of("jealous 0 0;".repeat(6));
        for (int state = 1; state < 64; state++) {
            is("before(" + state + ", 0)", x.before(state, 0), 0);
            is("before(" + state + ", 1)", x.before(state, 1), NONE);
        }
        is("before(1, 2), BAD ahead of NONE", x.before(1, 2), BAD);
        is("before(64, 1), BAD ahead of NONE", x.before(64, 1), BAD);
    }

    private void gardens() {
        said(22, "How many STATES come of none.");
        for (int things = 0; things <= 6; things++) {
            is("gardens(), each comes of itself", Due.of(plain(things)).gardens(), 0);
            is("gardens(), one comes of all", Due.of("jealous 0 0;".repeat(things)).gardens(), (1 << things) - 1);
        }
        is("gardens(), 0 and 63 come", Due.of("echo 0;".repeat(6)).gardens(), 62);
        is("gardens(), all but 0 come", Due.of("easy 0 1;contrary 0;").gardens(), 1);
    }

    private void clash() {
        said(23, "Behind how many YEARS (0 to 99) first a BAN is broken.");
        String chain = "echo 0;echo 0;echo 1;echo 2;echo 3;echo 4;so 0;";
        is("clash() now", Due.of(plain(6) + "so 0;so 5;ban 5 0;").clash(), 0);
        for (int f = 1; f < 6; f++) {
            is("clash() behind " + f, Due.of(chain + "ban 0 " + f + ";").clash(), f);
        }
        is("clash() by the fourth ban", Due.of(chain + "ban 4 5;ban 4 5;ban 5 4;ban 1 3;").clash(), 3);
        is("clash() of a long way", Due.of("echo 3;echo 0;jealous 3 5;easy 2 4;jealous 5 3;contrary 1;so 0;so 1;so 4;"
            + "ban 1 2;").clash(), 26);
        is("clash() in year 999", goTo(Due.of(TURN + "plain;so 3;ban 2 3;"), 999).clash(), 1);
        still(House.FULL, call("clash()", x -> x.clash(), House.FULL.make().clash()));
        said(23, "NONE: behind none.");
        is("clash() of no things", new FloorYears().clash(), NONE);
        is("clash() without bans", Due.of(plain(6) + "so 0;so 5;").clash(), NONE);
        is("clash() of a ban that is never broken", Due.of(TURN + "ban 0 1;ban 1 2;ban 0 2;").clash(), NONE);
    }
}
