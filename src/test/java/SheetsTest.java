/** Promises 36 to 42: images, sheets and what is read of them, counts. */
public final class SheetsTest {
    private static final Due DUE = new Due();

    public static void main(String[] args) {
        keepAndBack();
        imagesStandAlone();
        sheet();
        lay();
        lanesKeepTheLowestBits();
        read();
        readFaults();
        readRefused();
        readAtTheLastYear();
        readBad();
        torn();
        count();
        DUE.finish();
    }

    private static void keepAndBack() {
        DUE.about("promises 36 and 37");
        FloorYears x = Due.of("plain;contrary 0;so 0;guest 1 4;ban 0 1;");
        DUE.is("keep(-1)", x.keep(-1), FloorYears.BAD);
        DUE.is("keep(2)", x.keep(2), FloorYears.BAD);
        DUE.is("back(-1)", x.back(-1), FloorYears.BAD);
        DUE.is("back(2)", x.back(2), FloorYears.BAD);
        DUE.is("back(0)", x.back(0), FloorYears.STATE);
        x.go(5);
        DUE.is("keep(0)", x.keep(0), 0);
        DUE.is("back(1)", x.back(1), FloorYears.STATE);
        x.alter(0, 0, 2);
        x.alter(1, 1, 1);
        x.alter(1, 2, 0);
        x.alter(0, 3, 0);
        x.hire(0, 0, 0);
        x.hire(0, 1, 8);
        x.forbid(1, 0);
        x.go(4);
        x.see(0, 3, true);
        DUE.is("keep(1)", x.keep(1), 0);
        DUE.is("back(0)", x.back(0), 5);
        int[] rules = {2, 1, 1, 5, 1, 1, 1};
        for (int what = 0; what < rules.length; what++) {
            DUE.is("rule(" + what + ")", x.rule(what), rules[what]);
        }
        DUE.is("thing(0, 0)", x.thing(0, 0), 0);
        DUE.is("thing(1, 1)", x.thing(1, 1), 0);
        DUE.is("thing(1, 2)", x.thing(1, 2), 1);
        DUE.is("guest(0, 0)", x.guest(0, 0), 1);
        DUE.is("guest(0, 1)", x.guest(0, 1), 4);
        DUE.is("ban(1, 0)", x.ban(1, 0), FloorYears.BAD);
        DUE.is("count(0), for what is seen stays", x.count(0), 1);
        DUE.is("back(1)", x.back(1), 9);
        DUE.is("guest(0, 1)", x.guest(0, 1), 8);
        DUE.is("thing(1, 2)", x.thing(1, 2), 0);
        DUE.is("ban(1, 0)", x.ban(1, 0), 1);
    }

    private static void imagesStandAlone() {
        DUE.about("promises 36 and 37, an image stands alone");
        FloorYears x = Due.of("plain;guest 0 1;");
        x.keep(0);
        x.undo(0);
        x.go(3);
        DUE.is("back(0)", x.back(0), 0);
        x.undo(0);
        x.go(2);
        DUE.is("back(0) again", x.back(0), 0);
        DUE.is("rule(4)", x.rule(4), 0);
        x.go(6);
        DUE.is("keep(0) again", x.keep(0), 1);
        x.go(1);
        DUE.is("back(0)", x.back(0), 6);
        DUE.is("count(1)", x.count(1), 1);
    }

    private static void sheet() {
        DUE.about("promise 38");
        FloorYears x = new FloorYears();
        int[][] bad = {{-1, 0, 1}, {4, 0, 1}, {0, -1, 1}, {0, 3, 1}, {0, 0, 41}, {4, 0, -1}, {0, 3, -1},
            {0, 0, Integer.MAX_VALUE}};
        for (int[] b : bad) {
            DUE.is("sheet(" + b[0] + ", " + b[1] + ", " + b[2] + ")", x.sheet(b[0], b[1], b[2]),
                FloorYears.BAD);
        }
        DUE.is("sheet(0, 0, -1)", x.sheet(0, 0, -1), -14);
        DUE.is("sheet(0, 2, least)", x.sheet(0, 2, Integer.MIN_VALUE), -14);
        DUE.is("count(3)", x.count(3), FloorYears.NONE);
        DUE.is("sheet(0, 0, 0)", x.sheet(0, 0, 0), 1);
        DUE.is("count(3)", x.count(3), 0);
        DUE.is("sheet(0, 2, 40)", x.sheet(0, 2, 40), 1);
        DUE.is("count(3)", x.count(3), 40);
        DUE.is("sheet(0, 1, -1)", x.sheet(0, 1, -1), -14);
        DUE.is("count(3), for what was refused", x.count(3), 40);
        DUE.is("lay(0, 39, 1)", x.lay(0, 39, 1), 1);
        // A new row begins with cells of 0: guest 0 comes, not the guest that was laid there.
        Due.tell(x, "plain;plain;guest 0 1;guest 1 1;");
        x.sheet(1, 0, 3);
        x.lay(1, 1, 1);
        DUE.is("sheet(1, 0, 3)", x.sheet(1, 0, 3), 1);
        DUE.is("read(1, 0, 1, 1)", x.read(1, 0, 1, 1), 1);
        DUE.is("rule(4)", x.rule(4), 1);
        x.lay(1, 0, 7);
        x.lay(1, 2, 7);
        DUE.is("sheet(1, 0, 3)", x.sheet(1, 0, 3), 1);
        DUE.is("read(1, 0, 0, 3)", x.read(1, 0, 0, 3), 3);
    }

    private static void lay() {
        DUE.about("promise 39");
        FloorYears x = new FloorYears();
        DUE.is("lay(-1, 0, 0)", x.lay(-1, 0, 0), FloorYears.BAD);
        DUE.is("lay(4, 0, 0)", x.lay(4, 0, 0), FloorYears.BAD);
        DUE.is("lay(3, 0, 0)", x.lay(3, 0, 0), -11);
        DUE.is("lay(3, -1, 0)", x.lay(3, -1, 0), -11);
        x.sheet(3, 1, 2);
        DUE.is("lay(3, -1, 0)", x.lay(3, -1, 0), -12);
        DUE.is("lay(3, 2, 0)", x.lay(3, 2, 0), -12);
        DUE.is("lay(3, 1, 7)", x.lay(3, 1, 7), 1);
        DUE.is("lay(2, 1, 7)", x.lay(2, 1, 7), -11);
        x.sheet(3, 0, 0);
        DUE.is("lay(3, 0, 0) of no cells", x.lay(3, 0, 0), -12);
    }

    /** What a cell of a lane holds, told by which guest comes: his thing is so behind it. */
    private static void cell(int lane, int v, int due) {
        FloorYears x = Due.of("plain;plain;guest 0 1;guest 1 1;");
        x.sheet(2, lane, 1);
        DUE.is("lay(2, 0, " + v + ")", x.lay(2, 0, v), 1);
        int came = x.read(2, lane, 0, 1);
        DUE.is("lane " + lane + " of " + v, came == 1 ? x.rule(4) : came, due);
    }

    private static void lanesKeepTheLowestBits() {
        DUE.about("promise 39, the lowest bits");
        cell(0, 0, 1);
        cell(0, 1, 2);
        cell(0, 256, 1);
        cell(0, 257, 2);
        cell(0, -255, 2);
        cell(0, 128, -20);
        cell(0, -1, -20);
        cell(1, 256, -20);
        cell(1, 65536, 1);
        cell(1, 65537, 2);
        cell(1, 32769, -20);
        cell(2, 65537, -20);
        cell(2, 1, 2);
        cell(2, Integer.MIN_VALUE, -20);
        cell(2, 2, -20);
    }

    /** Guests 0, 0, 1, 0 in lane 2; the fourth would break the ban. */
    private static FloorYears house() {
        FloorYears x = Due.of("plain;plain;guest 0 1;guest 1 2;ban 0 1;");
        x.sheet(0, 2, 4);
        x.lay(0, 2, 1);
        return x;
    }

    private static void standsAt(FloorYears x, int state, int year, int torn) {
        DUE.is("rule(4)", x.rule(4), state);
        DUE.is("rule(3)", x.rule(3), year);
        DUE.is("torn()", x.torn(), torn);
    }

    private static void read() {
        DUE.about("promise 40");
        FloorYears x = house();
        DUE.is("read(0, 2, 0, 1)", x.read(0, 2, 0, 1), 1);
        standsAt(x, 1, 1, 0);
        x = house();
        DUE.is("read(0, 2, 0, 3)", x.read(0, 2, 0, 3), 3);
        standsAt(x, 2, 3, 0);
        DUE.is("read(0, 2, 2, 1)", x.read(0, 2, 2, 1), 1);
        standsAt(x, 0, 4, 0);
        DUE.is("read(0, 2, 0, 0)", x.read(0, 2, 0, 0), 0);
        standsAt(x, 0, 4, 0);
        x = Due.of("contrary 0;echo 0;guest 1 0;");
        x.sheet(1, 0, 20);
        DUE.is("read(1, 0, 0, 1), a year behind", x.read(1, 0, 0, 1), 1);
        standsAt(x, 1, 1, 0);
        DUE.is("read(1, 0, 0, 20)", x.read(1, 0, 0, 20), 20);
        standsAt(x, 1, 21, 0);
        // A year may break a ban; it is the undoing that may not.
        x = Due.of("plain;echo 0;guest 0 0;ban 0 1;");
        x.sheet(1, 0, 2);
        DUE.is("read(1, 0, 0, 1) into a clash", x.read(1, 0, 0, 1), 1);
        standsAt(x, 3, 1, 0);
    }

    private static void readFaults() {
        DUE.about("promises 40 and 41, what the machine refuses");
        FloorYears x = house();
        DUE.is("read(1, 0, 0, 1)", x.read(1, 0, 0, 1), 0);
        standsAt(x, 0, 0, 1);
        DUE.is("read(0, 1, 0, 1)", x.read(0, 1, 0, 1), 0);
        standsAt(x, 0, 0, 3);
        DUE.is("read(0, 0, 9, 1), a cast ahead of an index", x.read(0, 0, 9, 1), 0);
        standsAt(x, 0, 0, 3);
        DUE.is("read(0, 2, -1, 1)", x.read(0, 2, -1, 1), 0);
        standsAt(x, 0, 0, 2);
        DUE.is("read(0, 2, 4, 1)", x.read(0, 2, 4, 1), 0);
        standsAt(x, 0, 0, 2);
        DUE.is("read(0, 2, greatest, 20)", x.read(0, 2, Integer.MAX_VALUE, 20), 0);
        standsAt(x, 0, 0, 2);
        DUE.is("read(0, 2, 3, 2), one ahead came", x.read(0, 2, 3, 2), 1);
        standsAt(x, 1, 1, 2);
        DUE.is("read(1, 0, 0, 0), nothing is read of nothing", x.read(1, 0, 0, 0), 0);
        standsAt(x, 1, 1, 0);
    }

    private static void readRefused() {
        DUE.about("promise 40, refused by undo()");
        FloorYears x = house();
        x.read(1, 0, 0, 1);
        DUE.is("read(0, 2, 0, 4)", x.read(0, 2, 0, 4), -23);
        standsAt(x, 0, 0, 1);
        DUE.is("read(0, 2, 1, 3), the second one", x.read(0, 2, 1, 3), -21);
        standsAt(x, 0, 0, 1);
        x.lay(0, 1, 2);
        DUE.is("read(0, 2, 0, 4) of a guest that there is not", x.read(0, 2, 0, 4), -21);
        x.lay(0, 0, -1);
        DUE.is("read(0, 2, 0, 20)", x.read(0, 2, 0, 20), -20);
        standsAt(x, 0, 0, 1);
    }

    private static void readAtTheLastYear() {
        DUE.about("promise 40, the last year");
        FloorYears x = house();
        for (int i = 0; i < 10; i++) {
            x.go(99);
        }
        x.go(8);
        DUE.is("read(0, 2, 0, 2) at 998", x.read(0, 2, 0, 2), -21);
        standsAt(x, 0, 998, 0);
        DUE.is("read(0, 2, 0, 1) at 998", x.read(0, 2, 0, 1), 1);
        standsAt(x, 1, 999, 0);
        DUE.is("read(0, 2, 0, 1) at 999", x.read(0, 2, 0, 1), -20);
        standsAt(x, 1, 999, 0);
        DUE.is("read(0, 2, 4, 1) at 999", x.read(0, 2, 4, 1), 0);
        standsAt(x, 1, 999, 2);
        DUE.is("read(0, 2, 0, 0) at 999", x.read(0, 2, 0, 0), 0);
        standsAt(x, 1, 999, 0);
    }

    private static void readBad() {
        DUE.about("promise 40, bad");
        FloorYears x = house();
        x.read(1, 0, 0, 1);
        int[][] bad = {{-1, 0, 0, 0}, {4, 0, 0, 0}, {0, -1, 0, 0}, {0, 3, 0, 0}, {0, 2, 0, -1},
            {0, 2, 0, 21}};
        for (int[] b : bad) {
            DUE.is("read(" + b[0] + ", " + b[1] + ", " + b[2] + ", " + b[3] + ")",
                x.read(b[0], b[1], b[2], b[3]), FloorYears.BAD);
            standsAt(x, 0, 0, 1);
        }
    }

    private static void torn() {
        DUE.about("promise 41");
        FloorYears x = house();
        DUE.is("torn() at first", x.torn(), 0);
        x.read(0, 0, 0, 1);
        DUE.is("torn()", x.torn(), 3);
        x.read(0, 2, 0, 4);
        DUE.is("torn() behind a read that came to no end", x.torn(), 3);
        x.read(0, 2, 0, 1);
        DUE.is("torn() behind one that did", x.torn(), 0);
    }

    private static void count() {
        DUE.about("promise 42");
        FloorYears x = Due.of("plain;plain;plain;so 0;so 2;guest 0 9;guest 1 9;guest 2 9;guest 0 8;");
        x.see(0, 0, true);
        x.see(0, 0, true);
        x.keep(1);
        x.sheet(0, 1, 7);
        x.sheet(1, 1, 9);
        Due.feed(x, "abc");
        int[] counts = {2, 1, 3, 7, 2, 35};
        for (int what = 0; what < counts.length; what++) {
            DUE.is("count(" + what + ")", x.count(what), counts[what]);
        }
        x.keep(0);
        DUE.is("count(1)", x.count(1), 2);
        DUE.is("count(-1)", x.count(-1), FloorYears.BAD);
        DUE.is("count(6)", x.count(6), FloorYears.BAD);
        FloorYears y = new FloorYears();
        y.sheet(1, 0, 5);
        DUE.is("count(3), for sheet 0 has nothing", y.count(3), FloorYears.NONE);
    }
}
