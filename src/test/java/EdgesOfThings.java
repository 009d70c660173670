/** The edges of what there is and of what is changed, promises 6 to 14. */
final class EdgesOfThings extends Edges {
    EdgesOfThings(Due due, Doc doc) {
        super(due, doc);
    }

    @Override
    void test() {
        answers();
        laws();
        allAtOnce();
        states();
        rule();
        thing();
        guest();
        ban();
        alterNumbers();
        alterKinds();
        alterThings();
        alterSo();
        hire();
        forbidThings();
        forbidFull();
        lift();
        undo();
        undoState();
    }

    private void answers() {
        said(Doc.TERMS, "Answers: BAD -1 (a number is not as told, there is no such THING, GUEST, BAN, IMAGE, SHEET), "
            + "STATE -2 (as told), FULL -3, NONE -4 (there is none), the first that fits;");
        is("BAD", FloorYears.BAD, -1);
        is("STATE", FloorYears.STATE, -2);
        is("FULL", FloorYears.FULL, -3);
        is("NONE", FloorYears.NONE, -4);
        // BAD stands first wherever another answer fits too.
        still(House.FULL, call("feed(128)", x -> x.feed(128), BAD), call("forbid(0, 0)", x -> x.forbid(0, 0), BAD),
            call("forbid(0, 6)", x -> x.forbid(0, 6), BAD), call("forbid(-1, 0)", x -> x.forbid(-1, 0), BAD),
            call("go(100)", x -> x.go(100), BAD), call("go(-1)", x -> x.go(-1), BAD),
            call("see(6, 0, true)", x -> x.see(6, 0, true), BAD), call("see(0, 10, true)", x -> x.see(0, 10, true), BAD),
            call("see(-1, 0, true)", x -> x.see(-1, 0, true), BAD), call("see(0, -1, true)", x -> x.see(0, -1, true), BAD),
            call("read(4, 0, 0, 1)", x -> x.read(4, 0, 0, 1), BAD), call("read(0, 3, 0, 1)", x -> x.read(0, 3, 0, 1), BAD),
            call("read(0, 0, 0, 21)", x -> x.read(0, 0, 0, 21), BAD));
        still(House.EMPTY, call("back(2)", x -> x.back(2), BAD), call("back(-1)", x -> x.back(-1), BAD),
            call("drift(0, 0, 0)", x -> x.drift(0, 0, 0), BAD), call("drift(0, 61, 0)", x -> x.drift(0, 61, 0), BAD),
            call("drift(0, 1, 2)", x -> x.drift(0, 1, 2), BAD), call("drift(0, 1, -1)", x -> x.drift(0, 1, -1), BAD),
            call("amend(2)", x -> x.amend(2), BAD), call("strict(2)", x -> x.strict(2), BAD),
            call("look(2)", x -> x.look(2), BAD), call("lay(4, 0, 0)", x -> x.lay(4, 0, 0), BAD),
            call("sheet(4, 0, -1)", x -> x.sheet(4, 0, -1), BAD), call("sheet(0, 3, -1)", x -> x.sheet(0, 3, -1), BAD));
        // Nothing agrees here, and those states with 1 so come of none.
        House restless = House.of("contrary 0;jealous 1 1;");
        still(restless, call("agree(1)", x -> x.agree(1), NONE), call("agree(4)", x -> x.agree(4), BAD),
            call("agree(-1)", x -> x.agree(-1), BAD), call("before(2, 1)", x -> x.before(2, 1), NONE),
            call("before(2, 2)", x -> x.before(2, 2), BAD), call("before(4, 1)", x -> x.before(4, 1), BAD),
            call("way(1, 1, 0)", x -> x.way(1, 1, 0), NONE), call("way(1, 1, 2)", x -> x.way(1, 1, 2), BAD),
            call("way(1, 2, 0)", x -> x.way(1, 2, 0), BAD), call("way(2, 1, 0)", x -> x.way(2, 1, 0), BAD),
            call("peace(4, 0)", x -> x.peace(4, 0), NONE), call("peace(4, 1)", x -> x.peace(4, 1), BAD),
            call("peace(5, 0)", x -> x.peace(5, 0), BAD), call("peace(5, 10)", x -> x.peace(5, 10), BAD));
    }

    private void law(int kind, String due) {
        FloorYears x = Due.of(plain(2) + "easy 0 1;");
        x.alter(2, 0, kind);
        for (int state = 0; state < 8; state++) {
            is("next(" + state + ") of kind " + kind, x.next(state) >> 2, due.charAt(state) - '0');
        }
    }

    private void lawOfItself(String text, int ifNot, int ifSo) {
        FloorYears x = Due.of(text);
        is("next(0) of '" + text + "'", x.next(0), ifNot);
        is("next(1) of '" + text + "'", x.next(1), ifSo);
    }

    private void laws() {
        said(Doc.TERMS, "NEXT YEAR a THING is SO: plain, if it was SO; echo, if its FIRST was; contrary, if its FIRST "
            + "was not; jealous, if its FIRST was and its SECOND was not; easy, if its FIRST or its SECOND was.");
        law(0, "00001111");
        law(1, "01010101");
        law(2, "10101010");
        law(3, "01000100");
        law(4, "01110111");
        lawOfItself("plain;", 0, 1);
        lawOfItself("echo 0;", 0, 1);
        lawOfItself("contrary 0;", 1, 0);
        lawOfItself("jealous 0 0;", 0, 0);
        lawOfItself("easy 0 0;", 0, 1);
        // What FIRST and SECOND of a plain one are does not matter, nor SECOND of an echo.
        FloorYears x = Due.of("plain;plain;echo 0;");
        x.alter(0, 1, 1);
        x.alter(0, 2, 1);
        x.alter(2, 2, 1);
        for (int state = 0; state < 8; state++) {
            is("next(" + state + ")", x.next(state), state & 3 | (state & 1) << 2);
        }
    }

    private void allAtOnce() {
        said(Doc.TERMS, "All at once.");
        FloorYears x = Due.of("echo 5;echo 0;echo 1;echo 2;echo 3;echo 4;so 5;");
        for (int i = 0; i < 6; i++) {
            is("rule(4)", x.rule(4), i == 0 ? 32 : 1 << i - 1);
            is("thing(" + i + ", 4)", x.thing(i, 4), 1);
            is("go(1)", x.go(1), 1 << i);
        }
    }

    private void states() {
        said(Doc.TERMS, "A STATE: which THINGS are SO (bits). ALLOWED is one in which no BAN is broken.");
        FloorYears x = Due.of(plain(6) + "ban 0 5;");
        for (int state = 0; state < 64; state++) {
            // Only what is otherwise than in the state before: all of it would be more than 512 calls.
            for (int f = 0; f < 6; f++) {
                if (((state ^ state - 1) >> f & 1) == 1) {
                    x.alter(f, 3, state >> f & 1);
                }
            }
            is("rule(4)", x.rule(4), state);
            is("rule(5) at " + state, x.rule(5), (state & 33) == 33 ? 0 : 1);
        }
    }

    private void rule() {
        said(6, "0 THINGS, 1 GUESTS, 2 BANS, 3 YEAR, 4 the STATE now, 5 whether it is ALLOWED, "
            + "6 whether it AGREES (1, 0 each). BAD.");
        said(Doc.TERMS, "YEAR (0 at first).");
        String most = plain(6) + "so 0;so 1;so 2;so 3;so 4;so 5;" + "guest 5 9;".repeat(4) + "ban 0 5;".repeat(4);
        are("rule(#)", Due.of(""), FloorYears::rule, 0, 0, 0, 0, 0, 1, 1);
        are("rule(#)", Due.of("plain;"), FloorYears::rule, 1, 0, 0, 0, 0, 1, 1);
        are("rule(#)", Due.of("contrary 0;"), FloorYears::rule, 1, 0, 0, 0, 0, 1, 0);
        are("rule(#) of most", goTo(Due.of(most), 999), FloorYears::rule, 6, 4, 4, 999, 63, 0, 1);
        for (House house : new House[] {House.EMPTY, House.RICH, House.FULL}) {
            bad(house, "rule(#)", 0, 6, FloorYears::rule);
        }
        still(House.FULL, call("rule(0)", x -> x.rule(0), 6), call("rule(1)", x -> x.rule(1), 4),
            call("rule(2)", x -> x.rule(2), 4), call("rule(3)", x -> x.rule(3), 999));
    }

    private void thing() {
        said(7, "Of a THING: 0 KIND, 1 FIRST, 2 SECOND, 3 whether it is SO, 4 whether it is NEXT YEAR (1, 0). BAD.");
        for (int things = 0; things <= 6; things++) {
            House house = House.of(plain(things));
            bad(house, "thing(#, 0)", 0, things - 1, (x, f) -> x.thing(f, 0));
            if (things > 0) {
                int last = things - 1;
                are("thing(last, #)", house.make(), (x, what) -> x.thing(last, what), 0, last, last, 0, 0, BAD);
                bad(house, "thing(last, #)", 0, 4, (x, what) -> x.thing(last, what));
                bad(house, "thing(0, #)", 0, 4, (x, what) -> x.thing(0, what));
            }
        }
        are("thing(5, #)", Due.of("plain;plain;plain;plain;plain;easy 0 1;so 0;"), (x, what) -> x.thing(5, what),
            4, 0, 1, 0, 1);
        are("thing(0, #)", Due.of("contrary 5;plain;plain;plain;plain;plain;so 5;so 0;"),
            (x, what) -> x.thing(0, what), 2, 5, 0, 1, 0);
    }

    private void guest() {
        said(8, "Of a GUEST: 0 the THING that he UNDOES, 1 PRICE. BAD.");
        for (int guests = 0; guests <= 4; guests++) {
            House house = House.of(plain(6) + "guest 5 9;".repeat(guests));
            bad(house, "guest(#, 0)", 0, guests - 1, (x, g) -> x.guest(g, 0));
            bad(house, "guest(#, 1)", 0, guests - 1, (x, g) -> x.guest(g, 1));
            if (guests > 0) {
                int last = guests - 1;
                are("guest(last, #)", house.make(), (x, what) -> x.guest(last, what), 5, 9, BAD);
                bad(house, "guest(last, #)", 0, 1, (x, what) -> x.guest(last, what));
            }
        }
    }

    private void ban() {
        said(9, "Of a BAN: 0, 1 its THINGS, 2 whether it is broken (1, 0). BAD.");
        for (int bans = 0; bans <= 4; bans++) {
            House house = House.of(plain(6) + "so 5;" + "ban 5 0;".repeat(bans));
            bad(house, "ban(#, 0)", 0, bans - 1, (x, b) -> x.ban(b, 0));
            bad(house, "ban(#, 2)", 0, bans - 1, (x, b) -> x.ban(b, 2));
            if (bans > 0) {
                int last = bans - 1;
                FloorYears y = house.make();
                are("ban(last, #)", y, (x, what) -> x.ban(last, what), 5, 0, 0, BAD);
                y.alter(0, 3, 1);
                are("ban(last, #)", y, (x, what) -> x.ban(last, what), 5, 0, 1, BAD);
                y.alter(5, 3, 0);
                are("ban(last, #)", y, (x, what) -> x.ban(last, what), 5, 0, 0, BAD);
                bad(house, "ban(last, #)", 0, 2, (x, what) -> x.ban(last, what));
            }
        }
    }

    private void alterNumbers() {
        said(10, "KIND, FIRST, SECOND, SO (what 0 to 3) of a THING becomes v: what it was. BAD.");
        for (int things = 0; things <= 6; things++) {
            House house = House.of(plain(things));
            for (int what = 0; what <= 3; what++) {
                int w = what;
                bad(house, "alter(#, " + w + ", 0)", 0, things - 1, (x, f) -> x.alter(f, w, 0));
            }
        }
        bad(House.RICH, "alter(0, #, 0)", 0, 3, (x, what) -> x.alter(0, what, 0));
        bad(House.RICH, "alter(5, #, 1)", 0, 3, (x, what) -> x.alter(5, what, 1));
        bad(House.RICH, "alter(3, 0, #)", 0, 4, (x, v) -> x.alter(3, 0, v));
        bad(House.RICH, "alter(3, 3, #)", 0, 1, (x, v) -> x.alter(3, 3, v));
        for (int things = 1; things <= 6; things++) {
            House house = House.of(plain(things));
            bad(house, "alter(0, 1, #)", 0, things - 1, (x, v) -> x.alter(0, 1, v));
            bad(house, "alter(0, 2, #)", 0, things - 1, (x, v) -> x.alter(0, 2, v));
        }
    }

    private void alterKinds() {
        said(10, "KIND, FIRST, SECOND, SO (what 0 to 3) of a THING becomes v: what it was.");
        for (int f : new int[] {0, 5}) {
            FloorYears x = Due.of(plain(6));
            int was = 0;
            for (int v : new int[] {4, 0, 3, 1, 2, 2, 4}) {
                is("alter(" + f + ", 0, " + v + ")", x.alter(f, 0, v), was);
                is("thing(" + f + ", 0)", x.thing(f, 0), v);
                was = v;
            }
            for (int g = 0; g < 6; g++) {
                is("thing(" + g + ", 0)", x.thing(g, 0), g == f ? 4 : 0);
            }
        }
    }

    private void alterThings() {
        said(10, "KIND, FIRST, SECOND, SO (what 0 to 3) of a THING becomes v: what it was.");
        for (int things = 1; things <= 6; things++) {
            for (int what = 1; what <= 2; what++) {
                FloorYears x = Due.of(plain(things));
                int last = things - 1;
                is("alter(last, " + what + ", 0)", x.alter(last, what, 0), last);
                is("alter(last, " + what + ", last)", x.alter(last, what, last), 0);
                is("alter(last, " + what + ", last) again", x.alter(last, what, last), last);
                is("alter(0, " + what + ", last)", x.alter(0, what, last), 0);
                is("thing(0, " + what + ")", x.thing(0, what), last);
                is("thing(0, the other)", x.thing(0, 3 - what), 0);
            }
        }
    }

    private void alterSo() {
        said(10, "KIND, FIRST, SECOND, SO (what 0 to 3) of a THING becomes v: what it was.");
        FloorYears x = Due.of(plain(6) + "ban 0 5;");
        int state = 0;
        for (int f = 0; f < 6; f++) {
            is("alter(" + f + ", 3, 0), as it is", x.alter(f, 3, 0), 0);
            is("alter(" + f + ", 3, 1)", x.alter(f, 3, 1), 0);
            is("alter(" + f + ", 3, 1), as it is", x.alter(f, 3, 1), 1);
            state |= 1 << f;
            is("rule(4)", x.rule(4), state);
        }
        is("rule(5), for a ban does not hinder it", x.rule(5), 0);
        is("alter(0, 3, 0)", x.alter(0, 3, 0), 1);
        is("rule(4)", x.rule(4), 62);
    }

    private void hire() {
        said(11, "The THING (what 0), PRICE (1) of a GUEST becomes v: what it was. BAD.");
        for (int guests = 0; guests <= 4; guests++) {
            House house = House.of(plain(2) + "guest 0 4;".repeat(guests));
            bad(house, "hire(#, 0, 0)", 0, guests - 1, (x, g) -> x.hire(g, 0, 0));
            bad(house, "hire(#, 1, 0)", 0, guests - 1, (x, g) -> x.hire(g, 1, 0));
        }
        bad(House.RICH, "hire(3, #, 0)", 0, 1, (x, what) -> x.hire(3, what, 0));
        bad(House.RICH, "hire(0, 1, #)", 0, 9, (x, v) -> x.hire(0, 1, v));
        for (int things = 1; things <= 6; things++) {
            House house = House.of(plain(things) + "guest 0 4;guest 0 5;");
            int last = things - 1;
            bad(house, "hire(1, 0, #)", 0, last, (x, v) -> x.hire(1, 0, v));
            FloorYears x = house.make();
            is("hire(1, 0, last)", x.hire(1, 0, last), 0);
            is("hire(1, 0, 0)", x.hire(1, 0, 0), last);
            is("hire(1, 1, 9)", x.hire(1, 1, 9), 5);
            is("hire(1, 1, 0)", x.hire(1, 1, 0), 9);
            is("hire(1, 1, 0) again", x.hire(1, 1, 0), 0);
            are("guest(0, #)", x, (y, what) -> y.guest(0, what), 0, 4);
        }
    }

    private void forbidThings() {
        said(12, "A BAN more: how many there are. BAD (also alike);");
        for (int things = 0; things <= 6; things++) {
            House house = House.of(plain(things));
            int last = things - 1;
            bad(house, "forbid(#, 0)", 1, last, (x, f) -> x.forbid(f, 0));
            bad(house, "forbid(0, #)", 1, last, (x, g) -> x.forbid(0, g));
            for (int f = 0; f < things; f++) {
                int alike = f;
                still(house, call("forbid(" + f + ", " + f + ")", x -> x.forbid(alike, alike), BAD));
            }
            if (things > 1) {
                FloorYears x = house.make();
                is("forbid(0, last)", x.forbid(0, last), 1);
                is("forbid(last, 0)", x.forbid(last, 0), 2);
                are("ban(1, #)", x, (y, what) -> y.ban(1, what), last, 0, 0);
            }
        }
    }

    private void forbidFull() {
        said(12, "FULL.");
        FloorYears x = Due.of(plain(2));
        for (int many = 1; many <= 4; many++) {
            is("forbid(0, 1)", x.forbid(0, 1), many);
        }
        is("forbid(0, 1), a fifth", x.forbid(0, 1), FULL);
        is("forbid(1, 1), a fifth, BAD ahead of FULL", x.forbid(1, 1), BAD);
        is("lift(3)", x.lift(3), 3);
        is("forbid(1, 0), a fourth again", x.forbid(1, 0), 4);
        is("forbid(1, 0), a fifth", x.forbid(1, 0), FULL);
        still(House.FULL, call("forbid(4, 5)", y -> y.forbid(4, 5), FULL), call("forbid(0, 5)", y -> y.forbid(0, 5), FULL));
    }

    private void lift() {
        said(13, "A BAN is lifted (those behind it are one less): how many are left. BAD.");
        for (int bans = 0; bans <= 4; bans++) {
            House house = House.of(plain(5) + "ban 0 1;ban 1 2;ban 2 3;ban 3 4;".substring(0, 8 * bans));
            bad(house, "lift(#)", 0, bans - 1, FloorYears::lift);
            for (int lifted = 0; lifted < bans; lifted++) {
                FloorYears x = house.make();
                is("lift(" + lifted + ") of " + bans, x.lift(lifted), bans - 1);
                is("rule(2)", x.rule(2), bans - 1);
                for (int b = 0; b < bans; b++) {
                    int was = b < lifted ? b : b + 1;
                    is("ban(" + b + ", 0) behind lift(" + lifted + ")", x.ban(b, 0), was == bans ? BAD : was);
                    is("ban(" + b + ", 1) behind lift(" + lifted + ")", x.ban(b, 1), was == bans ? BAD : was + 1);
                }
            }
        }
    }

    private void undo() {
        said(14, "A GUEST UNDOES his THING now: the STATE then. BAD;");
        said(Doc.TERMS, "UNDOING: a THING that is SO is not, one that is not is SO.");
        for (int guests = 0; guests <= 4; guests++) {
            House house = House.of(plain(6) + "guest 5 9;".repeat(guests));
            bad(house, "undo(#)", 0, guests - 1, FloorYears::undo);
            for (int g = 0; g < guests; g++) {
                FloorYears x = house.make();
                is("undo(" + g + ")", x.undo(g), 32);
                is("undo(" + g + ") again", x.undo(g), 0);
                is("rule(3), for no year goes", x.rule(3), 0);
            }
        }
        FloorYears x = goTo(Due.of("plain;guest 0 0;"), 999);
        is("undo(0) in year 999", x.undo(0), 1);
    }

    private void undoState() {
        said(14, "STATE: it would not be ALLOWED.");
        House house = House.of(plain(6) + "so 0;guest 5 1;guest 0 1;guest 1 1;ban 0 5;");
        still(house, call("undo(0)", x -> x.undo(0), STATE));
        // In what is not allowed, an undoing that leaves it so is refused, one that ends it is not.
        House broken = House.of(plain(6) + "so 0;so 5;guest 5 1;guest 0 1;guest 1 1;ban 0 5;");
        still(broken, call("undo(2)", x -> x.undo(2), STATE));
        is("undo(0)", broken.make().undo(0), 1);
        is("undo(1)", broken.make().undo(1), 32);
        House fourth = House.of(plain(3) + "so 0;guest 1 1;ban 0 2;ban 0 2;ban 2 0;ban 1 0;");
        still(fourth, call("undo(0), by the fourth ban", x -> x.undo(0), STATE));
        // What comes next year is not asked.
        is("undo(0)", Due.of("plain;echo 0;guest 0 1;ban 0 1;").undo(0), 1);
    }
}
