/** Promises 15 to 23: years, rings, what agrees, what could have been, a clash. */
public final class YearsTest {
    private static final Due DUE = new Due();

    public static void main(String[] args) {
        go();
        ahead();
        next();
        ring();
        rings();
        agree();
        before();
        gardens();
        clash();
        DUE.finish();
    }

    private static void go() {
        DUE.about("promise 15");
        FloorYears x = Due.of("contrary 0;echo 0;echo 1;");
        DUE.is("go(-1)", x.go(-1), FloorYears.BAD);
        DUE.is("go(100)", x.go(100), FloorYears.BAD);
        DUE.is("go(0)", x.go(0), 0);
        DUE.is("go(1)", x.go(1), 1);
        DUE.is("go(2)", x.go(2), 5);
        DUE.is("rule(3)", x.rule(3), 3);
        DUE.is("rule(4)", x.rule(4), 5);
        DUE.is("go(99)", x.go(99), 2);
        for (int i = 0; i < 9; i++) {
            x.go(99);
        }
        DUE.is("rule(3)", x.rule(3), 993);
        DUE.is("go(7)", x.go(7), FloorYears.FULL);
        DUE.is("go(99)", x.go(99), FloorYears.FULL);
        DUE.is("go(100)", x.go(100), FloorYears.BAD);
        DUE.is("rule(3)", x.rule(3), 993);
        DUE.is("rule(4)", x.rule(4), 5);
        DUE.is("go(6)", x.go(6), 5);
        DUE.is("rule(3)", x.rule(3), 999);
        DUE.is("go(0)", x.go(0), 5);
        DUE.is("go(1)", x.go(1), FloorYears.FULL);
    }

    private static void ahead() {
        DUE.about("promise 16");
        FloorYears x = Due.of("plain;echo 0;echo 1;so 0;");
        int[] states = {1, 3, 7, 7};
        for (int n = 0; n < states.length; n++) {
            DUE.is("ahead(" + n + ")", x.ahead(n), states[n]);
        }
        DUE.is("ahead(99)", x.ahead(99), 7);
        DUE.is("ahead(-1)", x.ahead(-1), FloorYears.BAD);
        DUE.is("ahead(100)", x.ahead(100), FloorYears.BAD);
        DUE.is("rule(4)", x.rule(4), 1);
        DUE.is("rule(3)", x.rule(3), 0);
        for (int i = 0; i < 11; i++) {
            x.go(i < 10 ? 99 : 9);
        }
        DUE.is("rule(3)", x.rule(3), 999);
        DUE.is("ahead(99), for no year goes", x.ahead(99), 7);
    }

    private static void next() {
        DUE.about("promise 17");
        FloorYears x = Due.of("plain;contrary 0;jealous 0 1;so 2;");
        int[] states = {2, 5, 2, 1, 2, 5, 2, 1};
        for (int s = 0; s < 8; s++) {
            DUE.is("next(" + s + ")", x.next(s), states[s]);
        }
        DUE.is("next(-1)", x.next(-1), FloorYears.BAD);
        DUE.is("next(8)", x.next(8), FloorYears.BAD);
        DUE.is("rule(4)", x.rule(4), 4);
        DUE.is("next(0) of nothing", new FloorYears().next(0), 0);
        DUE.is("next(1) of nothing", new FloorYears().next(1), FloorYears.BAD);
        DUE.is("next(63)", Due.of("plain;".repeat(6)).next(63), 63);
        DUE.is("next(64)", Due.of("plain;".repeat(6)).next(64), FloorYears.BAD);
    }

    private static void ringIs(String text, int... due) {
        FloorYears x = Due.of(text);
        for (int what = 0; what < 4; what++) {
            DUE.is("ring(" + what + ") of '" + text + "'", x.ring(what), due[what]);
        }
    }

    private static void ring() {
        DUE.about("promise 18");
        ringIs("plain;echo 0;echo 1;so 0;", 2, 1, 7, 7);
        ringIs("contrary 0;", 0, 2, 0, 1);
        ringIs("contrary 0;easy 0 1;", 2, 2, 2, 3);
        ringIs("echo 1;echo 2;echo 0;so 0;", 0, 3, 0, 7);
        ringIs("echo 1;echo 2;echo 0;", 0, 1, 0, 0);
        ringIs("echo 1;echo 2;echo 3;echo 4;echo 5;contrary 0;", 0, 12, 0, 63);
        ringIs("jealous 0 0;echo 0;echo 1;echo 2;echo 3;echo 4;so 0;", 6, 1, 0, 0);
        DUE.is("ring(-1)", new FloorYears().ring(-1), FloorYears.BAD);
        DUE.is("ring(4)", new FloorYears().ring(4), FloorYears.BAD);
    }

    private static void ringsAre(String text, int... due) {
        FloorYears x = Due.of(text);
        for (int what = 0; what < 4; what++) {
            DUE.is("rings(" + what + ") of '" + text + "'", x.rings(what), due[what]);
        }
    }

    private static void rings() {
        DUE.about("promise 19");
        ringsAre("contrary 0;", 1, 2, 0, 2);
        ringsAre("contrary 0;easy 0 1;", 1, 2, 2, 2);
        ringsAre("contrary 0;plain;", 2, 2, 0, 2);
        ringsAre("echo 1;echo 2;echo 0;", 4, 1, 0, 3);
        ringsAre("contrary 1;echo 0;", 1, 4, 0, 4);
        // Both 1 and 2 are rings of 1, while 0 and 3 come one behind the other.
        ringsAre("contrary 1;contrary 0;", 3, 1, 1, 2);
        ringsAre("plain;plain;plain;ban 0 1;", 8, 1, 0, 1);
        ringsAre("", 1, 1, 0, 1);
        DUE.is("rings(-1)", new FloorYears().rings(-1), FloorYears.BAD);
        DUE.is("rings(4)", new FloorYears().rings(4), FloorYears.BAD);
    }

    private static void agreeIs(String text, int... due) {
        FloorYears x = Due.of(text);
        for (int what = 0; what < 4; what++) {
            DUE.is("agree(" + what + ") of '" + text + "'", x.agree(what), due[what]);
        }
    }

    private static void agree() {
        DUE.about("promise 20");
        agreeIs("plain;contrary 0;", 2, 1, 0, 3);
        agreeIs("plain;echo 0;echo 1;", 2, 0, 0, 7);
        agreeIs("plain;echo 0;echo 1;ban 2 0;", 1, 0, 0, 0);
        agreeIs("contrary 0;", 0, -4, -4, -4);
        agreeIs("jealous 0 0;contrary 0;contrary 0;", 1, 6, 6, 6);
        agreeIs("jealous 0 0;contrary 0;contrary 0;ban 1 2;", 0, -4, -4, -4);
        agreeIs("plain;contrary 0;jealous 2 2;contrary 2;", 2, 9, 8, 11);
        DUE.is("agree(-1)", new FloorYears().agree(-1), FloorYears.BAD);
        DUE.is("agree(4)", new FloorYears().agree(4), FloorYears.BAD);
    }

    private static void before() {
        DUE.about("promise 21");
        FloorYears x = Due.of("plain;echo 0;echo 1;ban 0 1;");
        int[] many = {2, 0, 0, 2, 2, 0, 0, 2};
        int[] least = {0, -4, -4, 1, 2, -4, -4, 3};
        for (int s = 0; s < 8; s++) {
            DUE.is("before(" + s + ", 0)", x.before(s, 0), many[s]);
            DUE.is("before(" + s + ", 1)", x.before(s, 1), least[s]);
        }
        DUE.is("before(-1, 0)", x.before(-1, 0), FloorYears.BAD);
        DUE.is("before(8, 0)", x.before(8, 0), FloorYears.BAD);
        DUE.is("before(0, -1)", x.before(0, -1), FloorYears.BAD);
        DUE.is("before(0, 2)", x.before(0, 2), FloorYears.BAD);
    }

    private static void gardens() {
        DUE.about("promise 22");
        DUE.is("gardens()", Due.of("plain;echo 0;echo 1;").gardens(), 4);
        DUE.is("gardens() of a turn", Due.of("echo 1;echo 2;echo 0;").gardens(), 0);
        DUE.is("gardens() with one", Due.of("contrary 0;easy 0 1;").gardens(), 1);
        DUE.is("gardens() of 64", Due.of("jealous 0 0;".repeat(6)).gardens(), 63);
        DUE.is("gardens() of all plain", Due.of("plain;".repeat(6)).gardens(), 0);
    }

    private static void clash() {
        DUE.about("promise 23");
        DUE.is("clash() now", Due.of("plain;plain;so 0;so 1;ban 0 1;").clash(), 0);
        DUE.is("clash() behind 1", Due.of("plain;echo 0;echo 1;so 0;ban 0 1;").clash(), 1);
        DUE.is("clash() behind 2", Due.of("plain;echo 0;echo 1;so 0;ban 1 2;").clash(), 2);
        DUE.is("clash() of the second ban", Due.of("plain;echo 0;echo 1;plain;so 0;ban 0 3;ban 2 0;").clash(), 2);
        DUE.is("clash() never", Due.of("plain;echo 0;echo 1;ban 0 1;").clash(), FloorYears.NONE);
        DUE.is("clash() without bans", Due.of("plain;so 0;").clash(), FloorYears.NONE);
    }
}
