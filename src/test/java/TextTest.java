/** Promises 1 to 9: a new object, the text and its faults, what there is. */
public final class TextTest {
    private static final Due DUE = new Due();

    public static void main(String[] args) {
        newObject();
        feed();
        end();
        textsTaken();
        textsRefused();
        takenTellsAll();
        refusedChangesNothing();
        rule();
        thing();
        guest();
        ban();
        DUE.finish();
    }

    private static void newObject() {
        DUE.about("promise 1");
        FloorYears x = new FloorYears();
        int[] rules = {0, 0, 0, 0, 0, 1, 1};
        for (int what = 0; what < rules.length; what++) {
            DUE.is("rule(" + what + ")", x.rule(what), rules[what]);
        }
        int[] counts = {0, 0, 0, FloorYears.NONE, 0, 0};
        for (int what = 0; what < counts.length; what++) {
            DUE.is("count(" + what + ")", x.count(what), counts[what]);
        }
        for (int k = 0; k < 4; k++) {
            DUE.is("lay(" + k + ", 0, 0)", x.lay(k, 0, 0), -11);
        }
        DUE.is("thing(0, 0)", x.thing(0, 0), FloorYears.BAD);
        DUE.is("guest(0, 0)", x.guest(0, 0), FloorYears.BAD);
        DUE.is("ban(0, 0)", x.ban(0, 0), FloorYears.BAD);
        DUE.is("back(0)", x.back(0), FloorYears.STATE);
        DUE.is("back(1)", x.back(1), FloorYears.STATE);
        DUE.is("fault()", x.fault(), 0);
        DUE.is("torn()", x.torn(), 0);
    }

    private static void feed() {
        DUE.about("promise 2");
        FloorYears x = new FloorYears();
        DUE.is("feed(-1)", x.feed(-1), FloorYears.BAD);
        DUE.is("feed(128)", x.feed(128), FloorYears.BAD);
        DUE.is("feed(least)", x.feed(Integer.MIN_VALUE), FloorYears.BAD);
        DUE.is("count(2)", x.count(2), 0);
        DUE.is("feed(0)", x.feed(0), 1);
        DUE.is("feed(127)", x.feed(127), 2);
        for (int i = 3; i <= 160; i++) {
            DUE.is("feed(32)", x.feed(32), i);
        }
        DUE.is("feed(32) to a full tape", x.feed(32), FloorYears.FULL);
        DUE.is("feed(128) to a full tape", x.feed(128), FloorYears.BAD);
        DUE.is("count(2)", x.count(2), 160);
        DUE.is("end(159)", x.end(159), 160);
        DUE.is("feed(32)", x.feed(32), 160);
    }

    private static void end() {
        DUE.about("promise 3");
        FloorYears x = new FloorYears();
        DUE.is("end(-1)", x.end(-1), FloorYears.BAD);
        DUE.is("end(1) of an empty tape", x.end(1), FloorYears.BAD);
        DUE.is("end(0) of an empty tape", x.end(0), 0);
        Due.feed(x, "plain;x");
        DUE.is("end(8)", x.end(8), FloorYears.BAD);
        DUE.is("end(7)", x.end(7), 7);
        DUE.is("end(6)", x.end(6), 7);
        DUE.is("count(2)", x.count(2), 6);
        DUE.is("text()", x.text(), 1);
        Due.feed(x, "@plain");
        DUE.is("end(0)", x.end(0), 6);
        DUE.is("text() of nothing", x.text(), 0);
        DUE.is("rule(0)", x.rule(0), 0);
    }

    private static void taken(String text, int lines) {
        FloorYears x = new FloorYears();
        DUE.is("text() of '" + text + "'", Due.tell(x, text), lines);
        DUE.is("fault() of '" + text + "'", x.fault(), 0);
        DUE.is("the tape behind '" + text + "'", x.count(2), 0);
    }

    private static void textsTaken() {
        DUE.about("promise 4, taken");
        taken("", 0);
        taken("    ", 0);
        taken("plain;", 1);
        taken("  plain  ;  ", 1);
        taken("plain;echo0;", 2);
        taken("plain;echo 00;", 2);
        taken("so 0;plain;", 2);
        taken("echo 1;plain;", 2);
        taken("ban 1 0;guest 1 9;plain;plain;so 1;so 0;", 6);
        taken("plain;plain;ban 0 1;ban 0 1;", 4);
        taken("jealous 0 0;easy 1 1;contrary 2;", 3);
        taken("plain;plain;plain;plain;plain;plain;", 6);
        taken("plain;guest 0 0;guest 0 1;guest 0 2;guest 0 3;", 5);
        taken("plain;plain;ban 0 1;ban 0 1;ban 1 0;ban 0 1;", 6);
        taken("so 0;so 1;so 2;so 3;so 4;so 5;" + "plain;".repeat(6), 12);
        taken("jealous 5 5;easy 5 5;echo 5;contrary 5;plain;plain;so 5;guest 5 9;ban 5 0;ban 0 5;", 10);
        taken("plain;" + " ".repeat(154), 1);
        taken(" ".repeat(154) + "plain;", 1);
    }

    private static void refused(String text, int fault, int place) {
        FloorYears x = new FloorYears();
        DUE.is("text() of '" + text + "'", Due.tell(x, text), -10 - place);
        DUE.is("fault() of '" + text + "'", x.fault(), fault);
        DUE.is("the tape behind '" + text + "'", x.count(2), 0);
        DUE.is("things behind '" + text + "'", x.rule(0), 0);
    }

    private static void textsRefused() {
        DUE.about("promises 4 and 5, fault 1");
        String[] strange = {"@", "Plain;", "\t", "\n", "\0", "\177", "`", "{", "/", ":", "-1", "_"};
        for (String s : strange) {
            refused(s, 1, 0);
        }
        refused("plain:", 1, 5);
        refused("plain;\t", 1, 6);
        refused("plain 123;", 1, 6);
        refused("echo 000;", 1, 5);
        refused("echo 1234567890123456789012;", 1, 5);
        refused("123", 1, 0);
        refused("echo 0@", 1, 6);
        refused("echo 0\t;", 1, 6);

        DUE.about("promises 4 and 5, fault 2");
        refused(";", 2, 0);
        refused("0;", 2, 0);
        refused("12", 2, 0);
        refused("maid;", 2, 0);
        refused("plai;", 2, 0);
        refused("plainplain;", 2, 0);
        String[] others = {"a", "z", "xlain", "plaix", "xcho", "xontrary", "xealous", "xasy", "xo", "xuest", "xan",
            "plainz", "plaina", "sox", "bans", "guests"};
        for (String s : others) {
            refused(s + ";", 2, 0);
        }
        refused("s o 0;", 2, 0);
        refused("plain;;", 2, 6);
        refused("plain; x", 2, 7);
        refused("plain", 2, 5);
        refused("plain  ", 2, 7);
        refused("plain 1;", 2, 6);
        refused("plain plain;", 2, 6);
        refused("echo", 2, 4);
        refused("echo ", 2, 5);
        refused("echo;", 2, 4);
        refused("echo x;", 2, 5);
        refused("echo 0", 2, 6);
        refused("echo 0 0;", 2, 7);
        refused("contrary 0 0;", 2, 11);
        refused("jealous 0;", 2, 9);
        refused("jealous 0 0 0;", 2, 12);
        refused("easy 0;", 2, 6);
        refused("easy 0 0 0;", 2, 9);
        refused("so;", 2, 2);
        refused("so 0 0;", 2, 5);
        refused("so 0so 0;", 2, 4);
        refused("guest;", 2, 5);
        refused("guest 0;", 2, 7);
        refused("guest 0 0 0;", 2, 10);
        refused("ban 0;", 2, 5);
        refused("ban 0 1 2;", 2, 8);

        DUE.about("promises 4 and 5, fault 3");
        refused("echo 6;", 3, 5);
        refused("echo 99;", 3, 5);
        refused("contrary 6;", 3, 9);
        refused("jealous 6 0;", 3, 8);
        refused("jealous 0 6;", 3, 10);
        refused("easy 6 0;", 3, 5);
        refused("easy 0 6;", 3, 7);
        refused("so 6;", 3, 3);
        refused("guest 6 0;", 3, 6);
        refused("guest 0 10;", 3, 8);
        refused("ban 6 0;", 3, 4);
        refused("ban 0 6;", 3, 6);
        refused("ban 6 6;", 3, 4);
        refused("ban 1 1;", 3, 6);
        refused("ban 1 01;", 3, 6);

        DUE.about("promises 4 and 5, fault 4");
        refused("so 0;so 0;", 4, 8);
        refused("so 5;so 4;so 5;", 4, 13);

        DUE.about("promises 4 and 5, fault 5");
        refused("plain;".repeat(7), 5, 36);
        refused("plain;".repeat(6) + "easy 0 0;", 5, 36);
        refused("plain;" + "guest 0 0;".repeat(5), 5, 46);
        refused("plain;plain;" + "ban 0 1;".repeat(5), 5, 44);

        DUE.about("promises 4 and 5, fault 6");
        refused("echo 1;", 6, 7);
        refused("contrary 5;", 6, 11);
        refused("plain;jealous 2 0;", 6, 18);
        refused("plain;jealous 0 2;", 6, 18);
        refused("plain;easy 0 2;", 6, 15);
        refused("plain;so 1;", 6, 11);
        refused("plain;guest 1 0;", 6, 16);
        refused("plain;ban 0 1;", 6, 14);
        refused("plain;ban 1 0;", 6, 14);
        refused("echo 5;   ", 6, 10);

        DUE.about("promises 4 and 5, the first met");
        refused("echo 6@", 3, 5);
        refused("so 0;so 0@", 4, 8);
        refused("so 0;so 0", 4, 8);
        refused("ban 1 1@", 3, 6);
        refused("maid @", 2, 0);
        refused("plain;".repeat(6) + "echo @", 5, 36);
        refused("plain;".repeat(6) + "echo 6;", 5, 36);
        refused("plain;" + "guest 0 0;".repeat(4) + "guest@", 5, 46);
        refused("plain;plain;" + "ban 0 1;".repeat(4) + "ban 0 0;", 5, 44);
        refused("echo 5;so 5;so 5;", 4, 15);
        refused("echo 5;@", 1, 7);
    }

    private static void takenTellsAll() {
        DUE.about("promise 4, in place of what there was");
        FloorYears x = Due.of("plain;contrary 0;so 0;guest 1 4;ban 0 1;");
        x.go(7);
        x.see(0, 0, true);
        x.keep(0);
        x.keep(1);
        x.sheet(0, 1, 3);
        x.read(0, 0, 0, 1);
        DUE.is("torn()", x.torn(), 3);
        DUE.is("text()", Due.tell(x, "easy 0 0;"), 1);
        int[] rules = {1, 0, 0, 0, 0, 1, 1};
        for (int what = 0; what < rules.length; what++) {
            DUE.is("rule(" + what + ")", x.rule(what), rules[what]);
        }
        DUE.is("count(0)", x.count(0), 0);
        DUE.is("count(1)", x.count(1), 0);
        DUE.is("back(0)", x.back(0), FloorYears.STATE);
        DUE.is("back(1)", x.back(1), FloorYears.STATE);
        DUE.is("count(3), for sheets stay", x.count(3), 3);
        DUE.is("torn(), for it stays", x.torn(), 3);
        DUE.is("fits(0)", x.fits(0), 2);
    }

    private static void refusedChangesNothing() {
        DUE.about("promise 4, that which was told stays");
        FloorYears x = Due.of("plain;contrary 0;so 0;guest 1 4;ban 0 1;");
        x.go(7);
        x.see(0, 0, true);
        x.keep(0);
        DUE.is("text()", Due.tell(x, "easy 0 0;so 0;guest 0 1;so 0;"), -10 - 27);
        DUE.is("fault()", x.fault(), 4);
        int[] rules = {2, 1, 1, 7, 1, 1, 1};
        for (int what = 0; what < rules.length; what++) {
            DUE.is("rule(" + what + ")", x.rule(what), rules[what]);
        }
        DUE.is("thing(1, 0)", x.thing(1, 0), 2);
        DUE.is("guest(0, 1)", x.guest(0, 1), 4);
        DUE.is("count(0)", x.count(0), 1);
        DUE.is("count(1)", x.count(1), 1);
        DUE.is("back(0)", x.back(0), 7);
        DUE.about("promise 5, of the latest");
        DUE.is("text()", Due.tell(x, ""), 0);
        DUE.is("fault()", x.fault(), 0);
    }

    private static void rule() {
        DUE.about("promise 6");
        FloorYears x = Due.of("plain;plain;contrary 0;so 0;so 1;guest 0 1;guest 1 1;ban 0 1;");
        int[] rules = {3, 2, 1, 0, 3, 0, 1};
        for (int what = 0; what < rules.length; what++) {
            DUE.is("rule(" + what + ")", x.rule(what), rules[what]);
        }
        DUE.is("rule(-1)", x.rule(-1), FloorYears.BAD);
        DUE.is("rule(7)", x.rule(7), FloorYears.BAD);
        x.alter(0, 3, 0);
        x.go(12);
        x.alter(2, 3, 0);
        DUE.is("rule(3)", x.rule(3), 12);
        DUE.is("rule(4)", x.rule(4), 2);
        DUE.is("rule(5)", x.rule(5), 1);
        DUE.is("rule(6)", x.rule(6), 0);
    }

    /** Whether thing 2 of a kind is so next year, for each of the 8 states now. */
    private static void law(int kind, String due) {
        FloorYears x = Due.of("plain;plain;easy 0 1;");
        x.alter(2, 0, kind);
        for (int state = 0; state < 8; state++) {
            for (int f = 0; f < 3; f++) {
                x.alter(f, 3, state >> f & 1);
            }
            DUE.is("thing(2, 4) of kind " + kind + " at " + state, x.thing(2, 4), due.charAt(state) - '0');
        }
    }

    private static void thing() {
        DUE.about("promise 7");
        FloorYears x = Due.of("plain;echo 0;contrary 1;jealous 3 1;easy 5 4;contrary 2;so 3;so 0;");
        int[][] things = {{0, 0, 0, 1, 1}, {1, 0, 1, 0, 1}, {2, 1, 2, 0, 1}, {3, 3, 1, 1, 1},
            {4, 5, 4, 0, 0}, {2, 2, 5, 0, 1}};
        for (int f = 0; f < 6; f++) {
            for (int what = 0; what < 5; what++) {
                DUE.is("thing(" + f + ", " + what + ")", x.thing(f, what), things[f][what]);
            }
            DUE.is("thing(" + f + ", -1)", x.thing(f, -1), FloorYears.BAD);
            DUE.is("thing(" + f + ", 5)", x.thing(f, 5), FloorYears.BAD);
        }
        DUE.is("thing(-1, 0)", x.thing(-1, 0), FloorYears.BAD);
        DUE.is("thing(6, 0)", x.thing(6, 0), FloorYears.BAD);
        DUE.is("thing(1, 0) of one", Due.of("plain;").thing(1, 0), FloorYears.BAD);
        law(0, "00001111");
        law(1, "01010101");
        law(2, "10101010");
        law(3, "01000100");
        law(4, "01110111");
    }

    private static void guest() {
        DUE.about("promise 8");
        FloorYears x = Due.of("plain;plain;guest 1 9;guest 0 00;guest 1 5;guest 0 07;");
        int[][] guests = {{1, 9}, {0, 0}, {1, 5}, {0, 7}};
        for (int g = 0; g < 4; g++) {
            DUE.is("guest(" + g + ", 0)", x.guest(g, 0), guests[g][0]);
            DUE.is("guest(" + g + ", 1)", x.guest(g, 1), guests[g][1]);
            DUE.is("guest(" + g + ", 2)", x.guest(g, 2), FloorYears.BAD);
            DUE.is("guest(" + g + ", -1)", x.guest(g, -1), FloorYears.BAD);
        }
        DUE.is("guest(-1, 0)", x.guest(-1, 0), FloorYears.BAD);
        DUE.is("guest(4, 0)", x.guest(4, 0), FloorYears.BAD);
        DUE.is("guest(1, 0) of one", Due.of("plain;guest 0 1;").guest(1, 0), FloorYears.BAD);
    }

    private static void ban() {
        DUE.about("promise 9");
        FloorYears x = Due.of("plain;plain;plain;so 0;so 2;ban 2 0;ban 0 1;ban 1 2;");
        int[][] bans = {{2, 0, 1}, {0, 1, 0}, {1, 2, 0}};
        for (int b = 0; b < 3; b++) {
            for (int what = 0; what < 3; what++) {
                DUE.is("ban(" + b + ", " + what + ")", x.ban(b, what), bans[b][what]);
            }
            DUE.is("ban(" + b + ", -1)", x.ban(b, -1), FloorYears.BAD);
            DUE.is("ban(" + b + ", 3)", x.ban(b, 3), FloorYears.BAD);
        }
        DUE.is("ban(-1, 0)", x.ban(-1, 0), FloorYears.BAD);
        DUE.is("ban(3, 0)", x.ban(3, 0), FloorYears.BAD);
    }
}
