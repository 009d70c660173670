import java.math.BigInteger;

/** The edges of what is seen, of where to look, and of years by a seed, promises 31 to 35. */
final class EdgesOfSights extends Edges {
    /** Behind n years 0 is so if n modulo 3 was so. */
    private static final String TURN = "echo 1;echo 2;echo 0;";
    private static final BigInteger TIMES = BigInteger.valueOf(1103515245);
    private static final BigInteger MORE = BigInteger.valueOf(12345);
    private static final BigInteger AROUND = BigInteger.ONE.shiftLeft(32);

    EdgesOfSights(Due due, Doc doc) {
        super(due, doc);
    }

    @Override
    void test() {
        seeThings();
        seeYears();
        seeFull();
        forget();
        fits();
        fitsNone();
        look();
        lookNone();
        driftYears();
        driftWrapsAround();
        driftBits();
        driftAllowed();
        driftState();
    }

    private void seeThings() {
        said(31, "SEEN: behind n YEARS (0 to 9) from now on a THING is SO, or not: how many are. BAD;");
        for (int things = 0; things <= 6; things++) {
            House house = House.of(plain(things));
            bad(house, "see(#, 0, true)", 0, things - 1, (x, f) -> x.see(f, 0, true));
            bad(house, "see(#, 9, false)", 0, things - 1, (x, f) -> x.see(f, 9, false));
            for (int f = 0; f < things; f++) {
                FloorYears x = house.make();
                is("see(" + f + ", 0, true)", x.see(f, 0, true), 1);
                is("fits(2)", x.fits(2), 1 << f);
                x = house.make();
                is("see(" + f + ", 0, false)", x.see(f, 0, false), 1);
                is("fits(3)", x.fits(3), (1 << things) - 1 - (1 << f));
            }
        }
    }

    private void seeYears() {
        said(Doc.TERMS, "SEEN (6): behind so many YEARS (0 to 9) from now on a THING is SO, or not. STATES that FIT are "
            + "those by which, were it so now, all would be as SEEN.");
        for (int n = 0; n <= 9; n++) {
            FloorYears x = Due.of(TURN);
            is("see(0, " + n + ", true)", x.see(0, n, true), 1);
            are("fits(#)", x, FloorYears::fits, 4, 1 << n % 3, 1 << n % 3, 7);
            // What is so now, and which year it is, is not asked.
            x.alter(1, 3, 1);
            x.go(1);
            are("fits(#)", x, FloorYears::fits, 4, 1 << n % 3, 1 << n % 3, 7);
        }
        for (House house : new House[] {House.of(TURN), House.RICH, House.FULL}) {
            bad(house, "see(0, #, true)", 0, 9, (x, n) -> x.see(0, n, true));
            bad(house, "see(0, #, false)", 0, 9, (x, n) -> x.see(0, n, false));
        }
        is("see(0, 9, true) in year 999", goTo(Due.of("plain;"), 999).see(0, 9, true), 1);
    }

    private void seeFull() {
        said(31, "FULL.");
        FloorYears x = Due.of(plain(6));
        for (int many = 1; many <= 6; many++) {
            is("see(" + (many - 1) + ", 9, true)", x.see(many - 1, 9, true), many);
        }
        is("see(0, 0, false), a seventh", x.see(0, 0, false), FULL);
        is("see(6, 0, false), BAD ahead of FULL", x.see(6, 0, false), BAD);
        is("see(0, 10, false), BAD ahead of FULL", x.see(0, 10, false), BAD);
        are("fits(#)", x, FloorYears::fits, 1, 63, 63, 63);
        is("forget(5)", x.forget(5), 6);
        is("see(5, 0, false), a sixth again", x.see(5, 0, false), 6);
        are("fits(#)", x, FloorYears::fits, 1, 31, 31, 31);
        still(House.FULL, call("see(0, 0, true)", y -> y.see(0, 0, true), FULL),
            call("see(5, 9, false)", y -> y.see(5, 9, false), FULL));
    }

    private void forget() {
        said(32, "SEEN are the first n alone: how many there were. BAD.");
        bad(House.EMPTY, "forget(#)", 0, 0, FloorYears::forget);
        bad(House.RICH, "forget(#)", 0, 3, FloorYears::forget);
        bad(House.FULL, "forget(#)", 0, 6, FloorYears::forget);
        still(House.EMPTY, call("forget(0) of none", x -> x.forget(0), 0));
        still(House.RICH, call("forget(3) of 3", x -> x.forget(3), 3));
        still(House.FULL, call("forget(6) of 6", x -> x.forget(6), 6));
        for (int n = 0; n <= 6; n++) {
            FloorYears x = Due.of(plain(6));
            for (int f = 0; f < 6; f++) {
                x.see(f, 0, true);
            }
            is("forget(" + n + ") of 6", x.forget(n), 6);
            is("count(0)", x.count(0), n);
            is("fits(2), by the first " + n, x.fits(2), (1 << n) - 1);
            is("forget(" + n + ") again", x.forget(n), n);
            is("forget(" + (n + 1) + "), for the others are gone", x.forget(n + 1), BAD);
        }
    }

    private void fits() {
        said(33, "STATES that FIT: how many (what 0), the least (1), THINGS that are SO in all of them (2), in some (3; "
            + "bits). BAD;");
        are("fits(#) of nothing seen", Due.of(plain(6)), FloorYears::fits, 64, 0, 0, 63, BAD);
        FloorYears x = Due.of(plain(6) + "ban 0 5;");
        x.see(0, 0, true);
        x.see(5, 9, true);
        are("fits(#), though it is not allowed", x, FloorYears::fits, 16, 33, 33, 63, BAD);
        for (House house : new House[] {House.EMPTY, House.RICH, House.FULL}) {
            bad(house, "fits(#)", 0, 3, FloorYears::fits);
        }
    }

    private void fitsNone() {
        said(33, "NONE (1 to 3): there are none.");
        FloorYears x = Due.of("plain;");
        x.see(0, 0, true);
        x.see(0, 9, false);
        are("fits(#)", x, FloorYears::fits, 0, NONE, NONE, NONE, BAD);
        x.forget(1);
        are("fits(#)", x, FloorYears::fits, 1, 1, 1, 1, BAD);
        x = Due.of("jealous 0 0;");
        x.see(0, 1, true);
        are("fits(#) of what never comes", x, FloorYears::fits, 0, NONE, NONE, NONE, BAD);
    }

    private void look() {
        said(34, "What to look at next, behind n YEARS (0 to 9) at a THING, so that of STATES that FIT fewest are left at "
            + "the worst, fewer than now: 10 times the YEARS and the THING, of several the least (what 0), how many these "
            + "are (1). BAD;");
        FloorYears x = Due.of(plain(6));
        for (int f = 0; f < 6; f++) {
            are("look(#)", x, FloorYears::look, f, 32 >> f, BAD);
            x.see(f, 0, f % 2 == 0);
        }
        are("look(#)", x, FloorYears::look, NONE, NONE, BAD);
        // Behind a year it is better than now, and here behind nine; the model answers the same.
        x = Due.of("jealous 1 2;jealous 2 1;contrary 0;");
        x.see(0, 1, false);
        x.see(1, 2, false);
        are("look(#)", x, FloorYears::look, 11, 2);
        x = Due.of("contrary 1;contrary 5;echo 2;easy 5 2;easy 3 0;jealous 4 0;");
        x.see(4, 0, true);
        x.see(5, 8, false);
        are("look(#)", x, FloorYears::look, 95, 11);
        for (House house : new House[] {House.EMPTY, House.RICH, House.FULL}) {
            bad(house, "look(#)", 0, 1, FloorYears::look);
        }
        are("look(#), though six are seen", sixSeen(), FloorYears::look, 1, 16, BAD);
    }

    private static FloorYears sixSeen() {
        FloorYears x = Due.of(plain(6));
        for (int i = 0; i < 6; i++) {
            x.see(0, i, true);
        }
        return x;
    }

    private void lookNone() {
        said(34, "NONE: at nothing.");
        are("look(#) of no things", new FloorYears(), FloorYears::look, NONE, NONE, BAD);
        FloorYears x = Due.of("plain;");
        are("look(#) of two that fit", x, FloorYears::look, 0, 1, BAD);
        x.see(0, 0, true);
        are("look(#) of one that fits", x, FloorYears::look, NONE, NONE, BAD);
        x.see(0, 0, false);
        are("look(#) of none that fit", x, FloorYears::look, NONE, NONE, BAD);
    }

    /** The thing that is undone ahead of the n-th year, in numbers that do not wrap around by themselves. */
    private static int drawn(int seed, int n, int things) {
        BigInteger s = BigInteger.valueOf(seed).mod(AROUND);
        for (int i = 0; i < n; i++) {
            s = s.multiply(TIMES).add(MORE).mod(AROUND);
        }
        return s.shiftRight(16).mod(BigInteger.ONE.shiftLeft(15)).intValueExact() % things;
    }

    /** The seed that becomes what is wanted. */
    private static int seedAhead(long wanted) {
        return BigInteger.valueOf(wanted).subtract(MORE).multiply(TIMES.modInverse(AROUND)).mod(AROUND).intValue();
    }

    private void driftYears() {
        said(35, "By itself, n YEARS (1 to 60) by a seed:");
        said(35, "behind how many YEARS the STATE was ALLOWED (what 0), the STATE in the end (1). BAD;");
        for (int things = 1; things <= 6; things++) {
            FloorYears x = Due.of(plain(things));
            int state = 0;
            for (int n = 1; n <= 60; n++) {
                state ^= 1 << drawn(77, n, things);
                is("drift(77, " + n + ", 1) of " + things, x.drift(77, n, 1), state);
                is("drift(77, " + n + ", 0) of " + things, x.drift(77, n, 0), n);
            }
            is("rule(4), for it is by itself", x.rule(4), 0);
        }
        for (House house : new House[] {House.EMPTY, House.RICH, House.FULL}) {
            bad(house, "drift(1, #, 0)", 1, 60, (x, n) -> x.drift(1, n, 0));
            bad(house, "drift(1, #, 1)", 1, 60, (x, n) -> x.drift(1, n, 1));
            bad(house, "drift(1, 60, #)", 0, 1, (x, what) -> x.drift(1, 60, what));
        }
        FloorYears late = House.FULL.make();
        still(House.FULL, call("drift(1, 60, 0) in year 999", x -> x.drift(1, 60, 0), late.drift(1, 60, 0)),
            call("drift(1, 60, 1) in year 999", x -> x.drift(1, 60, 1), late.drift(1, 60, 1)));
        is("drift(1, 60, 0) in year 999 is no refusal", late.drift(1, 60, 0) >= 0 ? 1 : 0, 1);
    }

    private void driftWrapsAround() {
        said(35, "ahead of each the seed becomes seed times 1103515245 and 12345;");
        int[] seeds = {LEAST, LEAST + 1, -65536, -2, -1, 0, 1, 2, 65535, 65536, GREATEST - 1, GREATEST};
        for (int seed : seeds) {
            for (int things = 1; things <= 6; things++) {
                FloorYears x = Due.of(plain(things));
                int state = 0;
                for (int n = 1; n <= 20; n++) {
                    state ^= 1 << drawn(seed, n, things);
                    is("drift(" + seed + ", " + n + ", 1) of " + things, x.drift(seed, n, 1), state);
                }
            }
        }
    }

    private void driftBits() {
        said(35, "bits 16 to 30 of it modulo THINGS: that one is UNDONE:");
        // Bits 0 to 15 and bit 31 do not matter; 32767 is 1 modulo 6 and 2 modulo 5.
        long[][] rows = {{0x00000000L, 0, 0}, {0x0000ffffL, 0, 0}, {0x80000000L, 0, 0}, {0x8000ffffL, 0, 0},
            {0x00010000L, 1, 1}, {0x80010000L, 1, 1}, {0x0005ffffL, 5, 0}, {0x80050000L, 5, 0}, {0x00060000L, 0, 1},
            {0x7fff0000L, 1, 2}, {0x7fffffffL, 1, 2}, {0xffff0000L, 1, 2}, {0xffffffffL, 1, 2},
            {0x40000000L, 4, 4}, {0xc0000000L, 4, 4}};
        for (long[] row : rows) {
            int seed = seedAhead(row[0]);
            is("drift(" + seed + ", 1, 1) of 6", Due.of(plain(6)).drift(seed, 1, 1), 1 << row[1]);
            is("drift(" + seed + ", 1, 1) of 5", Due.of(plain(5)).drift(seed, 1, 1), 1 << row[2]);
            is("drift(" + seed + ", 1, 1) of 1", Due.of(plain(1)).drift(seed, 1, 1), 1);
        }
    }

    private void driftAllowed() {
        said(35, "behind how many YEARS the STATE was ALLOWED (what 0), the STATE in the end (1).");
        for (int seed : new int[] {LEAST, 3, GREATEST}) {
            FloorYears x = Due.of(plain(3) + "so 1;ban 0 1;ban 1 2;ban 2 0;");
            int state = 2;
            int allowed = 0;
            for (int n = 1; n <= 60; n++) {
                state ^= 1 << drawn(seed, n, 3);
                allowed += Integer.bitCount(state) < 2 ? 1 : 0;
                is("drift(" + seed + ", " + n + ", 0)", x.drift(seed, n, 0), allowed);
                is("drift(" + seed + ", " + n + ", 1)", x.drift(seed, n, 1), state);
            }
        }
        // It is behind the year that it is asked, not behind the undoing.
        FloorYears x = Due.of("jealous 0 0;plain;so 1;ban 0 1;");
        is("drift(), 0 is undone and gone", x.drift(seedAhead(0), 1, 0), 1);
        is("drift(), 0 is undone and gone", x.drift(seedAhead(0), 1, 1), 2);
        x = Due.of("plain;plain;so 1;ban 0 1;");
        is("drift(), 0 is undone and stays", x.drift(seedAhead(0), 1, 0), 0);
        is("drift(), 0 is undone and stays", x.drift(seedAhead(0), 1, 1), 3);
    }

    private void driftState() {
        said(35, "STATE: there are no THINGS.");
        for (int seed : new int[] {LEAST, -1, 0, 1, GREATEST}) {
            still(House.EMPTY, call("drift(" + seed + ", 1, 0)", x -> x.drift(seed, 1, 0), STATE),
                call("drift(" + seed + ", 60, 1)", x -> x.drift(seed, 60, 1), STATE),
                call("drift(" + seed + ", 0, 0), BAD ahead of STATE", x -> x.drift(seed, 0, 0), BAD),
                call("drift(" + seed + ", 61, 0), BAD ahead of STATE", x -> x.drift(seed, 61, 0), BAD),
                call("drift(" + seed + ", 1, 2), BAD ahead of STATE", x -> x.drift(seed, 1, 2), BAD));
        }
    }
}
