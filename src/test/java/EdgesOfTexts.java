/** The edges of the terms that tell the text and its faults, and of promises 1 to 5. */
final class EdgesOfTexts extends Edges {
    private static final String[] KINDS = {"plain", "echo", "contrary", "jealous", "easy"};
    private static final String[] NUMBERS = {"", " 0", " 0", " 0 0", " 0 0"};

    EdgesOfTexts(Due due, Doc doc) {
        super(due, doc);
    }

    @Override
    void test() {
        newObject();
        newObjectsStandAlone();
        feed();
        feedToAFullTape();
        end();
        linesOfAText();
        placesOfFaults();
        refusedTextChangesNothing();
        takenTextTellsAll();
        fault();
        bytesAndTokens();
        numbersOfFigures();
        numbersOfKinds();
        numbersOfSo();
        numbersOfGuests();
        numbersOfBans();
        linesNotWhole();
        toldTwice();
        tooMany();
        thingsThatThereAreNot();
        theFirstMet();
    }

    private void newObject() {
        said(1, "No THINGS, nobody; SHEETS have nothing.");
        FloorYears x = new FloorYears();
        are("rule(#)", x, FloorYears::rule, 0, 0, 0, 0, 0, 1, 1, BAD);
        are("count(#)", x, FloorYears::count, 0, 0, 0, NONE, 0, 0, BAD);
        is("fault()", x.fault(), 0);
        is("torn()", x.torn(), 0);
        still(House.EMPTY, call("thing(0, 0)", y -> y.thing(0, 0), BAD),
            call("guest(0, 0)", y -> y.guest(0, 0), BAD), call("ban(0, 0)", y -> y.ban(0, 0), BAD),
            call("alter(0, 0, 0)", y -> y.alter(0, 0, 0), BAD), call("hire(0, 0, 0)", y -> y.hire(0, 0, 0), BAD),
            call("hire(0, 1, 0)", y -> y.hire(0, 1, 0), BAD), call("forbid(0, 1)", y -> y.forbid(0, 1), BAD),
            call("lift(0)", y -> y.lift(0), BAD), call("undo(0)", y -> y.undo(0), BAD),
            call("next(1)", y -> y.next(1), BAD), call("before(1, 0)", y -> y.before(1, 0), BAD),
            call("way(0, 0, 0)", y -> y.way(0, 0, 0), BAD), call("see(0, 0, true)", y -> y.see(0, 0, true), BAD),
            call("forget(1)", y -> y.forget(1), BAD), call("end(1)", y -> y.end(1), BAD),
            call("back(0)", y -> y.back(0), STATE), call("back(1)", y -> y.back(1), STATE),
            call("drift(0, 1, 0)", y -> y.drift(0, 1, 0), STATE));
        // The one state that there is has no bits, and it agrees.
        are("ring(#)", x, FloorYears::ring, 0, 1, 0, 0);
        are("rings(#)", x, FloorYears::rings, 1, 1, 0, 1);
        are("agree(#)", x, FloorYears::agree, 1, 0, 0, 0);
        are("fits(#)", x, FloorYears::fits, 1, 0, 0, 0);
        are("before(0, #)", x, (y, what) -> y.before(0, what), 1, 0);
        are("peace(#, 0)", x, (y, n) -> y.peace(n, 0), 0, 0, 0, 0, 0);
        is("gardens()", x.gardens(), 0);
        is("clash()", x.clash(), NONE);
        for (int k = 0; k < 4; k++) {
            is("lay(" + k + ", 0, 0)", x.lay(k, 0, 0), -11);
            for (int lane = 0; lane < 3; lane++) {
                is("read(" + k + ", " + lane + ", 0, 1)", x.read(k, lane, 0, 1), 0);
                is("torn()", x.torn(), 1);
            }
        }
        is("text() of nothing", x.text(), 0);
    }

    private void newObjectsStandAlone() {
        said(1, "No THINGS, nobody;");
        FloorYears other = House.FULL.make();
        is("rule(0) of another", other.rule(0), 6);
        String unlike = House.firstUnlike(House.EMPTY, new House(FloorYears::new));
        is("a new object beside a full one: " + unlike, unlike.length(), 0);
        is("rule(0) of another", other.rule(0), 6);
        is("count(2) of another", other.count(2), 160);
    }

    private void feed() {
        said(2, "A byte (0 to 127) comes behind THE TAPE: how many it has. BAD");
        FloorYears x = new FloorYears();
        for (int c = 0; c <= 127; c++) {
            is("feed(" + c + ")", x.feed(c), c + 1);
        }
        is("count(2)", x.count(2), 128);
        for (House house : new House[] {House.EMPTY, House.RICH, House.FULL}) {
            bad(house, "feed(#)", 0, 127, FloorYears::feed);
        }
    }

    private void feedToAFullTape() {
        said(2, "FULL: more than 160.");
        said(Doc.TERMS, "THE TAPE has 160 bytes, places from 0.");
        FloorYears x = new FloorYears();
        String text = "plain;" + " ".repeat(147) + "echo 0;";
        for (int i = 0; i < 160; i++) {
            is("feed() as the byte at " + i, x.feed(text.charAt(i)), i + 1);
        }
        is("feed(59) as the byte at 160", x.feed(59), FULL);
        is("feed(0) as the byte at 160", x.feed(0), FULL);
        is("feed(127) as the byte at 160", x.feed(127), FULL);
        is("feed(128), BAD ahead of FULL", x.feed(128), BAD);
        is("feed(-1), BAD ahead of FULL", x.feed(-1), BAD);
        is("count(2)", x.count(2), 160);
        is("text() of 160 bytes", x.text(), 2);
        is("thing(1, 0)", x.thing(1, 0), 1);
        is("feed(32) to an empty tape", x.feed(32), 1);
        still(House.FULL, call("feed(32)", y -> y.feed(32), FULL), call("feed(59)", y -> y.feed(59), FULL));
    }

    private void end() {
        said(3, "THE TAPE keeps its first n bytes: how many it had. BAD.");
        bad(House.EMPTY, "end(#)", 0, 0, FloorYears::end);
        bad(House.RICH, "end(#)", 0, 11, FloorYears::end);
        bad(House.FULL, "end(#)", 0, 160, FloorYears::end);
        still(House.EMPTY, call("end(0) of none", x -> x.end(0), 0));
        still(House.RICH, call("end(11) of 11", x -> x.end(11), 11));
        still(House.FULL, call("end(160) of 160", x -> x.end(160), 160));
        for (int n = 160; n >= 0; n--) {
            FloorYears x = new FloorYears();
            Due.feed(x, " ".repeat(160));
            is("end(" + n + ") of 160", x.end(n), 160);
            is("count(2)", x.count(2), n);
            is("feed(32)", x.feed(32), n == 160 ? FULL : n + 1);
        }
        FloorYears x = new FloorYears();
        Due.feed(x, "plain;echo 0;");
        is("end(6)", x.end(6), 13);
        is("end(7), for the others are gone", x.end(7), BAD);
        Due.feed(x, "contrary");
        is("text(), the first six and what came behind", x.text(), -10 - 14);
        Due.feed(x, "plain;@");
        is("end(6)", x.end(6), 7);
        is("text() of the first six", x.text(), 1);
        is("end(0) behind a text", x.end(0), 0);
        is("end(1) behind a text", x.end(1), BAD);
    }

    private int tell(FloorYears x, String text) {
        return Due.tell(x, text);
    }

    private void taken(String text, int lines) {
        FloorYears x = new FloorYears();
        is("text() of '" + text + "'", tell(x, text), lines);
        is("fault() of '" + text + "'", x.fault(), 0);
        is("bytes behind '" + text + "'", x.count(2), 0);
    }

    private void refused(String text, int fault, int place) {
        FloorYears x = new FloorYears();
        is("text() of '" + text + "'", tell(x, text), -10 - place);
        is("fault() of '" + text + "'", x.fault(), fault);
        is("bytes behind '" + text + "'", x.count(2), 0);
        is("things, guests, bans behind '" + text + "'", x.rule(0) + x.rule(1) + x.rule(2), 0);
    }

    private void linesOfAText() {
        said(4, "THE TAPE (empty then) tells all: how many lines");
        said(Doc.TERMS, "text: { line } line: K { N } ; | so N ; | guest N N ; | ban N N ;");
        taken("", 0);
        taken(" ", 0);
        taken(" ".repeat(160), 0);
        taken("plain;", 1);
        taken(" ".repeat(154) + "plain;", 1);
        taken("plain;" + " ".repeat(154), 1);
        String most = plain(6) + "so0;so1;so2;so3;so4;so5;" + "guest0 0;".repeat(4) + "ban0 1;".repeat(4);
        taken(most, 20);
        taken(most + " ".repeat(160 - most.length()), 20);
        FloorYears x = Due.of(most);
        are("rule(#)", x, FloorYears::rule, 6, 4, 4, 0, 63, 0, 1);
        is("text() of nothing behind it", x.text(), 0);
        are("rule(#)", x, FloorYears::rule, 0, 0, 0, 0, 0, 1, 1);
    }

    private void placesOfFaults() {
        said(4, "-10 less the place of its FAULT: that which was told stays.");
        refused("@", 1, 0);
        for (int place = 1; place < 160; place++) {
            refused(" ".repeat(place) + "@", 1, place);
            refused(" ".repeat(place) + ";", 2, place);
        }
        refused(" ".repeat(156) + "echo", 2, 160);
        refused(" ".repeat(153) + "echo 0", 2, 159);
        refused(" ".repeat(153) + "echo 1;", 6, 160);
        refused("echo 1;" + " ".repeat(153), 6, 160);
        refused("echo 1;" + " ".repeat(152), 6, 159);
    }

    private void refusedTextChangesNothing() {
        said(Doc.TERMS, "what is refused changes nothing (but THE TAPE, as told).");
        String[] texts = {"plain;so 0;@", "plain;so 0;maid", "plain;echo 6;", "plain;so 0;so 0;", plain(7),
            "plain;so 0;guest 0 0;ban 0 1;"};
        for (int i = 0; i < texts.length; i++) {
            String text = texts[i];
            int fault = i + 1;
            for (House house : new House[] {House.RICH, House.FULL}) {
                House emptied = house.behind(x -> x.end(0));
                House told = emptied.behind(x -> tell(x, text));
                String unlike = House.firstUnlike(emptied, told, "fault()");
                is("behind '" + text + "' " + unlike, unlike.length(), 0);
                is("fault()", told.make().fault(), fault);
            }
        }
    }

    private void takenTextTellsAll() {
        said(Doc.TERMS, "A text that is taken tells all, in place of what there was; nothing is SEEN; IMAGES are gone.");
        for (House house : new House[] {House.RICH, House.FULL}) {
            FloorYears x = house.make();
            x.end(0);
            is("text() of nothing", x.text(), 0);
            are("rule(#)", x, FloorYears::rule, 0, 0, 0, 0, 0, 1, 1);
            is("SEEN", x.count(0), 0);
            is("IMAGES", x.count(1), 0);
            is("back(0)", x.back(0), STATE);
            is("back(1)", x.back(1), STATE);
            is("forget(1)", x.forget(1), BAD);
            is("lift(0)", x.lift(0), BAD);
            is("undo(0)", x.undo(0), BAD);
            is("a text of one", tell(x, "plain;"), 1);
            are("rule(#)", x, FloorYears::rule, 1, 0, 0, 0, 0, 1, 1);
            are("thing(0, #)", x, (y, what) -> y.thing(0, what), 0, 0, 0, 0, 0);
            is("fits(0), for nothing is SEEN", x.fits(0), 2);
            is("go(99), for it is YEAR 0", x.go(99), 0);
        }
    }

    private void fault() {
        said(5, "The FAULT of the latest text(); 0.");
        String[] texts = {"@", ";", "echo 6;", "so 0;so 0;", plain(7), "so 0;"};
        FloorYears x = new FloorYears();
        is("fault() at first", x.fault(), 0);
        for (int i = 0; i < texts.length; i++) {
            tell(x, texts[i]);
            is("fault() of '" + texts[i] + "'", x.fault(), i + 1);
            x.feed(32);
            x.end(0);
            x.feed(128);
            is("fault(), for it is the latest text()", x.fault(), i + 1);
        }
        is("text() of nothing", x.text(), 0);
        is("fault() of nothing", x.fault(), 0);
    }

    /** Each byte by itself and between a NAME and its ; . */
    private void bytesAndTokens() {
        said(Doc.TERMS, "TOKENS, each as long as may be, blanks (32) between: NAMES (a .. z), "
            + "NUMBERS (1 or 2 figures), one ; .");
        said(Doc.TERMS, "1 no TOKEN,");
        said(Doc.TERMS, "2 a TOKEN that can not stand there");
        for (int c = 0; c <= 127; c++) {
            boolean letter = c >= 97 && c <= 122;
            boolean figure = c >= 48 && c <= 57;
            String s = "" + (char) c;
            String between = "plain" + s + ";";
            if (c == 32) {
                taken(s, 0);
                taken(between, 1);
            } else if (c == 59) {
                refused(s, 2, 0);
                refused(between, 2, 6);
            } else if (letter) {
                refused(s, 2, 0);
                refused(between, 2, 0);
            } else if (figure) {
                refused(s, 2, 0);
                refused(between, 2, 5);
            } else {
                refused(s, 1, 0);
                refused(between, 1, 5);
            }
        }
        taken("plain;echo0;jealous0 1;", 3);
        taken("plain ; echo   0 ;", 2);
        refused("pl ain;", 2, 0);
        refused("plain;;", 2, 6);
        refused("plain;jealous 0 0;".replace("0 0", "00"), 2, 16);
        refused("z".repeat(160), 2, 0);
    }

    private void numbersOfFigures() {
        said(Doc.TERMS, "a NUMBER that is too long (its first byte).");
        taken("plain;echo 0;", 2);
        taken("plain;echo 00;", 2);
        refused("plain;echo 000;", 1, 11);
        refused("plain;echo 100;", 1, 11);
        refused("plain;echo " + "0".repeat(149), 1, 11);
        refused("9".repeat(160), 1, 0);
        refused("99", 2, 0);
        // The first two figures are no token of their own: it is as long as may be.
        refused("plain;jealous 0000;", 1, 14);
        // 4294967296 is 0 in an int.
        refused("plain;echo 4294967296;", 1, 11);
    }

    private static String[] figures(int v) {
        return v < 10 ? new String[] {"" + v, "0" + v} : new String[] {"" + v};
    }

    private void numbersOfKinds() {
        said(Doc.TERMS, "K: a THING more of that KIND: no NUMBER for plain, FIRST for echo and contrary, "
            + "FIRST and SECOND (0 to 5 each) for jealous and easy.");
        said(Doc.TERMS, "3 a NUMBER out of its bounds");
        said(Doc.TERMS, "each of a KIND (0 plain, 1 echo, 2 contrary, 3 jealous, 4 easy), of two THINGS "
            + "(FIRST, SECOND; itself at first), SO or not SO now (not SO).");
        for (int kind = 0; kind < 5; kind++) {
            refused("plain;" + KINDS[kind] + NUMBERS[kind] + " 0;", 2, 7 + KINDS[kind].length() + NUMBERS[kind].length());
            for (int v = 0; v <= 99 && kind > 0; v++) {
                for (String figure : figures(v)) {
                    thingOfNumber(kind, v, figure);
                }
            }
            FloorYears x = Due.of(plain(2) + KINDS[kind] + NUMBERS[kind] + ";");
            int first = kind == 0 ? 2 : 0;
            int second = kind < 3 ? 2 : 0;
            are("thing(2, #) of " + KINDS[kind], x, (y, what) -> y.thing(2, what), kind, first, second, 0);
        }
    }

    /** A THING of a KIND as the sixth, with a number as FIRST and, if it has one, as SECOND. */
    private void thingOfNumber(int kind, int v, String figure) {
        String name = plain(5) + KINDS[kind] + " ";
        String asFirst = name + figure + (kind > 2 ? " 1;" : ";");
        String asSecond = name + "1 " + figure + ";";
        if (v > 5) {
            refused(asFirst, 3, name.length());
            if (kind > 2) {
                refused(asSecond, 3, name.length() + 2);
            }
            return;
        }
        is("thing(5, 1) of '" + asFirst + "'", Due.of(asFirst).thing(5, 1), v);
        is("thing(5, 2) of '" + asFirst + "'", Due.of(asFirst).thing(5, 2), kind > 2 ? 1 : 5);
        if (kind > 2) {
            is("thing(5, 1) of '" + asSecond + "'", Due.of(asSecond).thing(5, 1), 1);
            is("thing(5, 2) of '" + asSecond + "'", Due.of(asSecond).thing(5, 2), v);
        }
    }

    private void numbersOfSo() {
        said(Doc.TERMS, "so: a THING (0 to 5) that is SO.");
        for (int v = 0; v <= 99; v++) {
            for (String figure : figures(v)) {
                String text = plain(6) + "so " + figure + ";";
                if (v > 5) {
                    refused(text, 3, 39);
                } else {
                    is("rule(4) of '" + text + "'", Due.of(text).rule(4), 1 << v);
                }
            }
        }
    }

    private void numbersOfGuests() {
        said(Doc.TERMS, "guest: a GUEST more: the THING that he UNDOES (0 to 5), PRICE.");
        said(Doc.TERMS, "GUESTS (4 at most), by order, each UNDOES a THING, at a PRICE (0 to 9).");
        for (int v = 0; v <= 99; v++) {
            for (String figure : figures(v)) {
                String ofThing = plain(6) + "guest " + figure + " 7;";
                String atPrice = plain(6) + "guest 3 " + figure + ";";
                if (v > 5) {
                    refused(ofThing, 3, 42);
                } else {
                    are("guest(0, #) of '" + ofThing + "'", Due.of(ofThing), (x, what) -> x.guest(0, what), v, 7);
                }
                if (v > 9) {
                    refused(atPrice, 3, 44);
                } else {
                    are("guest(0, #) of '" + atPrice + "'", Due.of(atPrice), (x, what) -> x.guest(0, what), 3, v);
                }
            }
        }
    }

    private void numbersOfBans() {
        said(Doc.TERMS, "ban: a BAN more: two THINGS (0 to 5).");
        said(Doc.TERMS, "(ban: alike with the first one).");
        for (int f = 0; f <= 7; f++) {
            for (int g = 0; g <= 7; g++) {
                String text = plain(6) + "ban " + f + " " + g + ";";
                if (f > 5) {
                    refused(text, 3, 40);
                } else if (g > 5 || f == g) {
                    refused(text, 3, 42);
                } else {
                    are("ban(0, #) of '" + text + "'", Due.of(text), (x, what) -> x.ban(0, what), f, g, 0);
                }
            }
        }
        refused(plain(6) + "ban 1 01;", 3, 42);
        refused(plain(6) + "ban 10 0;", 3, 40);
        refused(plain(6) + "ban 0 99;", 3, 42);
        taken(plain(6) + "ban 0 1;ban 0 1;ban 1 0;", 9);
    }

    /** Each line cut short, with a TOKEN more, and with another in its place. */
    private void linesNotWhole() {
        said(Doc.TERMS, "(a NAME that begins no line; or the end: the length).");
        String[] names = {"plain", "echo", "contrary", "jealous", "easy", "so", "guest", "ban"};
        int[] wanted = {0, 1, 1, 2, 2, 1, 2, 2};
        for (int i = 0; i < names.length; i++) {
            StringBuilder line = new StringBuilder(names[i]);
            for (int n = 0; n <= wanted[i]; n++) {
                refused(line.toString(), 2, line.length());
                refused(line + "  ", 2, line.length() + 2);
                refused(line + " so", 2, line.length() + 1);
                if (n < wanted[i]) {
                    refused(line + ";", 2, line.length());
                    line.append(' ').append(n);
                } else {
                    refused(line + " 0;", 2, line.length() + 1);
                }
            }
            refused(names[i] + "x", 2, 0);
            refused("x" + names[i], 2, 0);
            refused(names[i].substring(1) + ";", 2, 0);
            refused(names[i].substring(0, names[i].length() - 1) + ";", 2, 0);
            for (int at = 0; at < names[i].length(); at++) {
                refused(names[i].substring(0, at) + "x" + names[i].substring(at + 1) + " 0;", 2, 0);
            }
        }
    }

    private void toldTwice() {
        said(Doc.TERMS, "4 a THING that is told SO already (it).");
        taken(plain(6) + "so 0;so 1;so 2;so 3;so 4;so 5;", 12);
        for (int v = 0; v < 6; v++) {
            refused("so " + v + ";so " + v + ";", 4, 8);
            refused(plain(6) + "so 0;so 1;so 2;so 3;so 4;so 5;so " + v + ";", 4, 69);
        }
        refused("so 3;so 03;", 4, 8);
        refused("so 0;so 1;so 0;", 4, 13);
    }

    private void tooMany() {
        said(Doc.TERMS, "5 the 7th THING, the 5th guest, the 5th ban (its NAME).");
        said(Doc.TERMS, "======== 1 THINGS (6 at most), by order");
        said(Doc.TERMS, "BANS (4 at most): two THINGS that may not be SO at once.");
        for (int many = 0; many <= 6; many++) {
            taken(plain(many), many);
        }
        for (int kind = 0; kind < 5; kind++) {
            refused(plain(6) + KINDS[kind] + NUMBERS[kind] + ";", 5, 36);
            refused(plain(6) + " " + KINDS[kind], 5, 37);
            refused(plain(5) + KINDS[kind] + NUMBERS[kind] + ";so 0;plain;", 5,
                30 + KINDS[kind].length() + NUMBERS[kind].length() + 6);
        }
        for (int many = 0; many <= 4; many++) {
            taken(plain(2) + "guest 1 9;".repeat(many), 2 + many);
            taken(plain(2) + "ban 1 0;".repeat(many), 2 + many);
        }
        refused(plain(2) + "guest 1 9;".repeat(5), 5, 52);
        refused(plain(2) + "ban 1 0;".repeat(5), 5, 44);
        refused("guest 1 9;".repeat(4) + "guest", 5, 40);
        refused("ban 1 0;".repeat(4) + "ban", 5, 32);
    }

    /** The last THING that there is, and the first that there is not, wherever one is named. */
    private void thingsThatThereAreNot() {
        said(Doc.TERMS, "Behind all (the length): 6 a THING that there is not.");
        for (int things = 1; things <= 6; things++) {
            int last = things - 1;
            String others = plain(things - 1);
            String[] lines = {"echo #;", "contrary #;", "jealous # 0;", "jealous 0 #;", "easy # 0;", "easy 0 #;",
                "plain;so #;", "plain;guest # 0;"};
            for (String line : lines) {
                taken(others + line.replace("#", "" + last), things + (line.startsWith("plain") ? 1 : 0));
                taken(line.replace("#", "" + last) + others, things + (line.startsWith("plain") ? 1 : 0));
                if (things < 6) {
                    String named = others + line.replace("#", "" + things);
                    refused(named, 6, named.length());
                    refused(named + "  ", 6, named.length() + 2);
                }
            }
            if (things > 1) {
                taken(plain(things) + "ban 0 " + last + ";ban " + last + " 0;", things + 2);
            }
            if (things < 6) {
                refused(plain(things) + "ban 0 " + things + ";", 6, 6 * things + 8);
                refused("ban " + things + " 0;" + plain(things), 6, 6 * things + 8);
            }
        }
        refused("so 0;", 6, 5);
        refused("guest 0 0;", 6, 10);
        refused("ban 0 1;", 6, 8);
        // One is enough, whatever else there is, ahead of it or behind it.
        String fine = "easy 0 1;plain;so 1;guest 0 1;ban 0 1;";
        for (String missing : new String[] {"echo 5;", "jealous 5 0;", "easy 0 5;", "so 5;", "guest 5 9;", "ban 0 5;",
            "ban 5 0;"}) {
            refused(fine + missing, 6, fine.length() + missing.length());
            refused(missing + fine, 6, fine.length() + missing.length());
        }
    }

    private void theFirstMet() {
        said(Doc.TERMS, "FAULTS, the first met as it is read (a TOKEN is read when the one before has been taken):");
        refused("echo 6 @", 3, 5);
        refused("echo 6 000;", 3, 5);
        refused("echo 000 @", 1, 5);
        refused("jealous 6 6;", 3, 8);
        refused("jealous 0 @", 1, 10);
        refused("plain @", 1, 6);
        refused("plain 000;", 1, 6);
        refused("maid @", 2, 0);
        refused("so 0;so 0 @", 4, 8);
        refused("so 0;so 6;so 0;", 3, 8);
        refused("so 0;so @", 1, 8);
        refused("ban 3 3 @", 3, 6);
        refused("ban 6 6;", 3, 4);
        refused(plain(6) + "plain @", 5, 36);
        refused(plain(6) + "echo 6;", 5, 36);
        refused(plain(6) + "maid;", 2, 36);
        refused(plain(6) + "@", 1, 36);
        refused(plain(6) + "so 6;plain;", 3, 39);
        refused("echo 5;so 5;so 5;", 4, 15);
        refused("echo 5;@", 1, 7);
        refused("echo 5;plain", 2, 12);
        refused("guest 5 9;".repeat(4) + "guest 6 10;", 5, 40);
        refused("ban 0 1;".repeat(4) + "ban 6 6;", 5, 32);
    }
}
