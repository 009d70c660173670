/** Promises 10 to 14: what is changed. */
public final class ChangeTest {
    private static final Due DUE = new Due();

    public static void main(String[] args) {
        alter();
        alterBad();
        hire();
        forbid();
        lift();
        undo();
        DUE.finish();
    }

    private static void alter() {
        DUE.about("promise 10");
        FloorYears x = Due.of("plain;echo 0;jealous 0 1;so 1;ban 0 1;");
        DUE.is("alter(2, 0, 4)", x.alter(2, 0, 4), 3);
        DUE.is("thing(2, 0)", x.thing(2, 0), 4);
        DUE.is("alter(2, 1, 2)", x.alter(2, 1, 2), 0);
        DUE.is("thing(2, 1)", x.thing(2, 1), 2);
        DUE.is("thing(2, 2)", x.thing(2, 2), 1);
        DUE.is("alter(2, 2, 0)", x.alter(2, 2, 0), 1);
        DUE.is("thing(2, 2)", x.thing(2, 2), 0);
        DUE.is("alter(0, 3, 1), though a ban is broken then", x.alter(0, 3, 1), 0);
        DUE.is("rule(4)", x.rule(4), 3);
        DUE.is("rule(5)", x.rule(5), 0);
        DUE.is("alter(0, 3, 1) again", x.alter(0, 3, 1), 1);
        DUE.is("rule(4)", x.rule(4), 3);
        DUE.is("alter(1, 3, 0)", x.alter(1, 3, 0), 1);
        DUE.is("alter(1, 3, 0) again", x.alter(1, 3, 0), 0);
        DUE.is("rule(4)", x.rule(4), 1);
        DUE.is("alter(0, 0, 2)", x.alter(0, 0, 2), 0);
        DUE.is("next(0), for a plain one's first is itself", x.next(0) & 1, 1);
    }

    private static void alterBad() {
        FloorYears x = Due.of("plain;echo 0;jealous 0 1;so 1;");
        int[][] bad = {{-1, 0, 0}, {3, 0, 0}, {0, -1, 0}, {0, 4, 0}, {0, 5, 0}, {0, 0, -1}, {0, 0, 5},
            {0, 1, -1}, {0, 1, 3}, {0, 2, -1}, {0, 2, 3}, {0, 3, -1}, {0, 3, 2}};
        for (int[] b : bad) {
            DUE.is("alter(" + b[0] + ", " + b[1] + ", " + b[2] + ")", x.alter(b[0], b[1], b[2]),
                FloorYears.BAD);
        }
        DUE.is("thing(0, 0)", x.thing(0, 0), 0);
        DUE.is("thing(0, 1)", x.thing(0, 1), 0);
        DUE.is("thing(0, 2)", x.thing(0, 2), 0);
        DUE.is("rule(4)", x.rule(4), 2);
    }

    private static void hire() {
        DUE.about("promise 11");
        FloorYears x = Due.of("plain;plain;guest 0 4;guest 1 5;");
        DUE.is("hire(0, 0, 1)", x.hire(0, 0, 1), 0);
        DUE.is("guest(0, 0)", x.guest(0, 0), 1);
        DUE.is("guest(0, 1)", x.guest(0, 1), 4);
        DUE.is("hire(1, 1, 9)", x.hire(1, 1, 9), 5);
        DUE.is("hire(1, 1, 0)", x.hire(1, 1, 0), 9);
        DUE.is("guest(1, 1)", x.guest(1, 1), 0);
        int[][] bad = {{-1, 0, 0}, {2, 0, 0}, {0, -1, 0}, {0, 2, 0}, {0, 0, -1}, {0, 0, 2}, {0, 1, -1},
            {0, 1, 10}};
        for (int[] b : bad) {
            DUE.is("hire(" + b[0] + ", " + b[1] + ", " + b[2] + ")", x.hire(b[0], b[1], b[2]),
                FloorYears.BAD);
        }
        DUE.is("guest(0, 0)", x.guest(0, 0), 1);
        DUE.is("guest(0, 1)", x.guest(0, 1), 4);
    }

    private static void forbid() {
        DUE.about("promise 12");
        FloorYears x = Due.of("plain;plain;plain;so 0;so 2;");
        DUE.is("forbid(2, 0)", x.forbid(2, 0), 1);
        DUE.is("ban(0, 0)", x.ban(0, 0), 2);
        DUE.is("ban(0, 1)", x.ban(0, 1), 0);
        DUE.is("ban(0, 2)", x.ban(0, 2), 1);
        DUE.is("forbid(0, 2) alike with another", x.forbid(0, 2), 2);
        DUE.is("forbid(1, 1)", x.forbid(1, 1), FloorYears.BAD);
        DUE.is("forbid(-1, 1)", x.forbid(-1, 1), FloorYears.BAD);
        DUE.is("forbid(1, -1)", x.forbid(1, -1), FloorYears.BAD);
        DUE.is("forbid(3, 1)", x.forbid(3, 1), FloorYears.BAD);
        DUE.is("forbid(1, 3)", x.forbid(1, 3), FloorYears.BAD);
        DUE.is("rule(2)", x.rule(2), 2);
        DUE.is("forbid(0, 1)", x.forbid(0, 1), 3);
        DUE.is("forbid(1, 2)", x.forbid(1, 2), 4);
        DUE.is("forbid(1, 2), a fifth", x.forbid(1, 2), FloorYears.FULL);
        DUE.is("forbid(1, 1), a fifth", x.forbid(1, 1), FloorYears.BAD);
        DUE.is("rule(2)", x.rule(2), 4);
    }

    private static void lift() {
        DUE.about("promise 13");
        FloorYears x = Due.of("plain;plain;plain;ban 0 1;ban 0 2;ban 1 0;ban 2 1;");
        DUE.is("lift(-1)", x.lift(-1), FloorYears.BAD);
        DUE.is("lift(4)", x.lift(4), FloorYears.BAD);
        DUE.is("lift(1)", x.lift(1), 3);
        DUE.is("ban(0, 1)", x.ban(0, 1), 1);
        DUE.is("ban(1, 0)", x.ban(1, 0), 1);
        DUE.is("ban(1, 1)", x.ban(1, 1), 0);
        DUE.is("ban(2, 0)", x.ban(2, 0), 2);
        DUE.is("ban(2, 1)", x.ban(2, 1), 1);
        DUE.is("ban(3, 0)", x.ban(3, 0), FloorYears.BAD);
        DUE.is("lift(3)", x.lift(3), FloorYears.BAD);
        DUE.is("lift(2)", x.lift(2), 2);
        DUE.is("lift(0)", x.lift(0), 1);
        DUE.is("ban(0, 0)", x.ban(0, 0), 1);
        DUE.is("lift(0)", x.lift(0), 0);
        DUE.is("lift(0)", x.lift(0), FloorYears.BAD);
    }

    private static void undo() {
        DUE.about("promise 14");
        FloorYears x = Due.of("plain;plain;guest 0 1;guest 1 1;ban 0 1;");
        DUE.is("undo(-1)", x.undo(-1), FloorYears.BAD);
        DUE.is("undo(2)", x.undo(2), FloorYears.BAD);
        DUE.is("undo(1)", x.undo(1), 2);
        DUE.is("undo(0)", x.undo(0), FloorYears.STATE);
        DUE.is("rule(4)", x.rule(4), 2);
        DUE.is("undo(1)", x.undo(1), 0);
        DUE.is("undo(0)", x.undo(0), 1);
        DUE.is("rule(3)", x.rule(3), 0);
        x.alter(1, 3, 1);
        DUE.is("undo(0) out of what is not allowed", x.undo(0), 2);
    }
}
