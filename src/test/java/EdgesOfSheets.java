/** The edges of images, of sheets and what is read of them, and of counts, promises 36 to 42. */
final class EdgesOfSheets extends Edges {
    private static final int NULL = 1;
    private static final int INDEX = 2;
    private static final int CAST = 3;

    EdgesOfSheets(Due due, Doc doc) {
        super(due, doc);
    }

    @Override
    void test() {
        keep();
        imagesHoldAll();
        back();
        sheetSizes();
        sheetBad();
        sheetBelowNone();
        layCells();
        layLowestBits();
        layFaults();
        readMany();
        readFrom();
        readWhatTheMachineRefuses();
        readBad();
        readRefused();
        readLastYear();
        readFirstMet();
        torn();
        count();
    }

    private void keep() {
        said(36, "IMAGE k (0, 1) is THINGS, GUESTS, BANS (all of them), YEAR: whether there was one (1, 0). BAD.");
        for (House house : new House[] {House.EMPTY, House.RICH, House.FULL}) {
            bad(house, "keep(#)", 0, 1, FloorYears::keep);
        }
        for (int k = 0; k < 2; k++) {
            FloorYears x = Due.of("plain;");
            is("keep(" + k + ")", x.keep(k), 0);
            is("count(1)", x.count(1), 1);
            is("keep(" + k + ") again", x.keep(k), 1);
            is("count(1)", x.count(1), 1);
            is("keep(the other)", x.keep(1 - k), 0);
            is("count(1)", x.count(1), 2);
            x.text();
            is("keep(" + k + ") behind a text", x.keep(k), 0);
            is("back(the other) behind a text", x.back(1 - k), STATE);
        }
        FloorYears x = new FloorYears();
        is("keep(0) of nothing", x.keep(0), 0);
        is("back(0) of nothing", x.back(0), 0);
    }

    private void imagesHoldAll() {
        said(37, "All is as IMAGE k: YEAR.");
        for (int k = 0; k < 2; k++) {
            int image = k;
            for (House house : new House[] {House.EMPTY, House.RICH, House.FULL}) {
                House kept = house.behind(x -> x.keep(image));
                House changed = kept.behind(x -> {
                    changeAll(x);
                    return x.back(image);
                });
                String unlike = House.firstUnlike(kept, changed);
                is("behind back(" + k + ") " + unlike, unlike.length(), 0);
                is("back(" + k + ")", kept.make().back(k), house.make().rule(3));
            }
        }
    }

    private static void changeAll(FloorYears x) {
        for (int f = 0; f < 6; f++) {
            x.alter(f, 0, 4 - x.thing(f, 0));
            x.alter(f, 1, 5 - x.thing(f, 1));
            x.alter(f, 2, 5 - x.thing(f, 2));
            x.alter(f, 3, 1 - x.thing(f, 3));
        }
        for (int g = 0; g < 4; g++) {
            x.hire(g, 0, 5 - x.guest(g, 0));
            x.hire(g, 1, 9 - x.guest(g, 1));
        }
        x.lift(0);
        x.lift(0);
        x.go(7);
    }

    private void back() {
        said(37, "BAD; STATE: there is none.");
        for (House house : new House[] {House.EMPTY, House.RICH, House.FULL}) {
            bad(house, "back(#)", 0, 1, FloorYears::back);
        }
        House none = House.of("plain;");
        still(none, call("back(0)", x -> x.back(0), STATE), call("back(1)", x -> x.back(1), STATE),
            call("back(2), BAD ahead of STATE", x -> x.back(2), BAD));
        House first = none.behind(x -> x.keep(0));
        still(first, call("back(1)", x -> x.back(1), STATE), call("back(0)", x -> x.back(0), 0));
        House second = none.behind(x -> x.keep(1));
        still(second, call("back(0)", x -> x.back(0), STATE), call("back(1)", x -> x.back(1), 0));
        FloorYears x = goTo(Due.of("plain;guest 0 1;"), 999);
        x.keep(0);
        is("back(0) of year 999", x.back(0), 999);
        is("go(1)", x.go(1), FULL);
    }

    private void sheetSizes() {
        said(38, "A SHEET is a new row of CELLS 0: 1.");
        said(Doc.TERMS, "SHEETS 0 to 3 are rows of BYTES (lane 0), SHORTS (1), INTS (2) with 0 to 40 CELLS, or nothing (at "
            + "first).");
        for (int k = 0; k < 4; k++) {
            for (int lane = 0; lane < 3; lane++) {
                for (int n : new int[] {0, 1, 39, 40}) {
                    FloorYears x = new FloorYears();
                    String made = "sheet(" + k + ", " + lane + ", " + n + ")";
                    is("lay(" + k + ", 0, 0) ahead of " + made, x.lay(k, 0, 0), -10 - NULL);
                    is(made, x.sheet(k, lane, n), 1);
                    is("lay of the last cell of " + made, x.lay(k, n - 1, 1), n == 0 ? -10 - INDEX : 1);
                    is("lay behind the last cell of " + made, x.lay(k, n, 1), -10 - INDEX);
                    for (int other = 0; other < 4; other++) {
                        is("lay of another than " + made, x.lay(other, 0, 0), other != k ? -10 - NULL
                            : n == 0 ? -10 - INDEX : 1);
                    }
                }
            }
        }
        newRowsHaveNoGuests();
    }

    /** A row laid full of a guest that there is not, then made anew: each cell is 0 again. */
    private void newRowsHaveNoGuests() {
        for (int lane = 0; lane < 3; lane++) {
            FloorYears x = Due.of("plain;guest 0 0;");
            x.sheet(2, lane, 40);
            for (int i = 0; i < 40; i++) {
                x.lay(2, i, 1);
            }
            is("read(2, lane, 0, 1) of 1", x.read(2, lane, 0, 1), -20);
            is("sheet(2, lane, 40)", x.sheet(2, lane, 40), 1);
            is("read(2, lane, 0, 20) of 0", x.read(2, lane, 0, 20), 20);
            is("read(2, lane, 20, 20) of 0", x.read(2, lane, 20, 20), 20);
        }
        // A shorter row made longer again has not kept what lay there.
        FloorYears x = Due.of("plain;guest 0 0;");
        x.sheet(0, 0, 2);
        x.lay(0, 1, 1);
        x.sheet(0, 0, 1);
        x.sheet(0, 0, 2);
        is("read(0, 0, 1, 1)", x.read(0, 0, 1, 1), 1);
    }

    private void sheetBad() {
        said(38, "BAD: also n above 40;");
        for (House house : new House[] {House.EMPTY, House.RICH, House.FULL}) {
            bad(house, "sheet(#, 0, 1)", 0, 3, (x, k) -> x.sheet(k, 0, 1));
            bad(house, "sheet(0, #, 1)", 0, 2, (x, lane) -> x.sheet(0, lane, 1));
            for (int n : new int[] {41, 42, 256, 65536, GREATEST - 1, GREATEST}) {
                still(house, call("sheet(1, 0, " + n + ")", x -> x.sheet(1, 0, n), BAD),
                    call("sheet(3, 2, " + n + ")", x -> x.sheet(3, 2, n), BAD));
            }
            // Below 0 is the machine's, but it is asked last.
            bad(house, "sheet(#, 0, -1), BAD ahead of SIZE", 0, 3, (x, k) -> x.sheet(k, 0, -1));
            bad(house, "sheet(0, #, -1), BAD ahead of SIZE", 0, 2, (x, lane) -> x.sheet(0, lane, -1));
        }
    }

    private void sheetBelowNone() {
        said(38, "-10 - 4.");
        said(Doc.TERMS, "4 SIZE (below 0).");
        for (House house : new House[] {House.EMPTY, House.RICH, House.FULL}) {
            for (int n : new int[] {-1, -2, -41, -256, -65536, LEAST + 40, LEAST + 1, LEAST}) {
                still(house, call("sheet(0, 0, " + n + ")", x -> x.sheet(0, 0, n), -14),
                    call("sheet(2, 1, " + n + ")", x -> x.sheet(2, 1, n), -14),
                    call("sheet(3, 2, " + n + ")", x -> x.sheet(3, 2, n), -14));
            }
        }
    }

    private void layCells() {
        said(39, "CELL i of a SHEET becomes v (its lowest bits): 1. BAD: k;");
        for (House house : new House[] {House.EMPTY, House.RICH, House.FULL}) {
            bad(house, "lay(#, 0, 0)", 0, 3, (x, k) -> x.lay(k, 0, 0));
            bad(house, "lay(#, -1, 0), BAD ahead of INDEX", 0, 3, (x, k) -> x.lay(k, -1, 0));
        }
        for (int lane = 0; lane < 3; lane++) {
            FloorYears x = Due.of("plain;plain;guest 0 0;guest 1 0;");
            x.sheet(1, lane, 40);
            is("lay(1, 0, 1)", x.lay(1, 0, 1), 1);
            is("lay(1, 39, 1)", x.lay(1, 39, 1), 1);
            is("read(1, lane, 0, 1)", x.read(1, lane, 0, 1), 1);
            is("rule(4)", x.rule(4), 2);
            is("read(1, lane, 1, 1)", x.read(1, lane, 1, 1), 1);
            is("rule(4)", x.rule(4), 3);
            is("read(1, lane, 38, 2)", x.read(1, lane, 38, 2), 2);
            is("rule(4)", x.rule(4), 0);
        }
    }

    /** Which guest comes of a cell in which v was laid; -1: none, for there is no such one. */
    private void laid(int lane, int v, int guest) {
        FloorYears x = Due.of(plain(4) + "guest 0 0;guest 1 0;guest 2 0;guest 3 0;");
        x.sheet(0, lane, 1);
        is("lay(0, 0, " + v + ")", x.lay(0, 0, v), 1);
        is("read() of " + v + " in lane " + lane, x.read(0, lane, 0, 1), guest < 0 ? -20 : 1);
        is("rule(4)", x.rule(4), guest < 0 ? 0 : 1 << guest);
    }

    private void layLowestBits() {
        said(39, "(its lowest bits)");
        int[][] rows = {
            // v, and the guest that comes in lanes 0, 1, 2
            {0, 0, 0, 0}, {3, 3, 3, 3}, {4, -1, -1, -1}, {-1, -1, -1, -1}, {127, -1, -1, -1}, {128, -1, -1, -1},
            {255, -1, -1, -1}, {256, 0, -1, -1}, {259, 3, -1, -1}, {-256, 0, -1, -1}, {-253, 3, -1, -1},
            {32767, -1, -1, -1}, {32768, 0, -1, -1}, {65535, -1, -1, -1}, {65536, 0, 0, -1}, {65539, 3, 3, -1},
            {-65536, 0, 0, -1}, {-65533, 3, 3, -1}, {LEAST, 0, 0, -1}, {LEAST + 3, 3, 3, -1}, {GREATEST, -1, -1, -1},
            {GREATEST - 255, 0, -1, -1}, {GREATEST - 65535, 0, 0, -1}};
        for (int[] row : rows) {
            for (int lane = 0; lane < 3; lane++) {
                laid(lane, row[0], row[1 + lane]);
            }
        }
    }

    private void layFaults() {
        said(39, "-10 less the FAULT: NULL, INDEX.");
        said(Doc.TERMS, "A FAULT is what the machine finds: 1 NULL (nothing), 2 INDEX, 3 CAST (another lane),");
        for (int k = 0; k < 4; k++) {
            int sheet = k;
            for (int i : new int[] {LEAST, -1, 0, 1, 39, 40, GREATEST}) {
                still(House.EMPTY, call("lay(" + k + ", " + i + ", 1) of nothing", x -> x.lay(sheet, i, 1), -11));
            }
            House whole = House.of("plain;guest 0 0;").behind(x -> x.sheet(sheet, sheet % 3, 40));
            House none = House.of("plain;guest 0 0;").behind(x -> x.sheet(sheet, sheet % 3, 0));
            for (int i : outside(0, 39)) {
                still(whole, call("lay(" + k + ", " + i + ", 1) of 40", x -> x.lay(sheet, i, 1), -12));
            }
            for (int i : outside(0, -1)) {
                still(none, call("lay(" + k + ", " + i + ", 1) of none", x -> x.lay(sheet, i, 1), -12));
            }
        }
    }

    /** A plain thing, undone by guest 0; every cell of a sheet of 40 in each lane is he. */
    private static FloorYears corridor() {
        FloorYears x = Due.of("plain;plain;guest 0 0;guest 1 0;ban 0 1;");
        for (int lane = 0; lane < 3; lane++) {
            x.sheet(lane, lane, 40);
        }
        return x;
    }

    private void stands(FloorYears x, int state, int year, int torn) {
        is("rule(4)", x.rule(4), state);
        is("rule(3)", x.rule(3), year);
        is("torn()", x.torn(), torn);
    }

    private void readMany() {
        said(40, "n (0 to 20) GUESTS are read of a SHEET taken as of a lane, from CELL f on, one behind another as by undo(), "
            + "a YEAR behind each: how many came.");
        for (int lane = 0; lane < 3; lane++) {
            for (int n = 0; n <= 20; n++) {
                FloorYears x = corridor();
                is("read(" + lane + ", " + lane + ", 0, " + n + ")", x.read(lane, lane, 0, n), n);
                stands(x, n % 2, n, 0);
                x = corridor();
                is("read(" + lane + ", " + lane + ", 40 - n, " + n + ")", x.read(lane, lane, 40 - n, n), n);
                stands(x, n % 2, n, 0);
            }
        }
        // A year goes behind each, by the laws: 1 hears of it, the last year too.
        FloorYears x = Due.of("plain;echo 0;guest 0 0;");
        x.sheet(3, 0, 2);
        is("read(3, 0, 0, 1)", x.read(3, 0, 0, 1), 1);
        stands(x, 3, 1, 0);
        is("read(3, 0, 0, 2)", x.read(3, 0, 0, 2), 2);
        stands(x, 3, 3, 0);
        is("read(3, 0, 0, 1)", x.read(3, 0, 0, 1), 1);
        stands(x, 0, 4, 0);
    }

    private void readFrom() {
        said(40, "What the machine refuses: those ahead came (its FAULT is asked by torn()).");
        for (int f : new int[] {LEAST, LEAST + 1, LEAST + 20, -20, -2, -1, 40, 41, 256, 65536, GREATEST - 19, GREATEST - 1,
            GREATEST}) {
            for (int n : new int[] {1, 2, 20}) {
                FloorYears x = corridor();
                is("read(0, 0, " + f + ", " + n + ")", x.read(0, 0, f, n), 0);
                stands(x, 0, 0, INDEX);
            }
        }
        for (int f = 21; f < 40; f++) {
            FloorYears x = corridor();
            is("read(2, 2, " + f + ", 20)", x.read(2, 2, f, 20), 40 - f);
            stands(x, f % 2, 40 - f, INDEX);
        }
        // Far out does not matter, if nobody is read.
        FloorYears x = corridor();
        is("read(0, 0, greatest, 0)", x.read(0, 0, GREATEST, 0), 0);
        is("read(0, 0, least, 0)", x.read(0, 0, LEAST, 0), 0);
        stands(x, 0, 0, 0);
    }

    private void readWhatTheMachineRefuses() {
        said(Doc.TERMS, "1 NULL (nothing), 2 INDEX, 3 CAST (another lane), 4 SIZE (below 0).");
        for (int lane = 0; lane < 3; lane++) {
            FloorYears x = corridor();
            x.sheet(3, lane, 0);
            for (int as = 0; as < 3; as++) {
                is("read(" + lane + ", " + as + ", 0, 1)", x.read(lane, as, 0, 1), as == lane ? 1 : 0);
                is("torn()", x.torn(), as == lane ? 0 : CAST);
                // Of another lane no cell is asked for.
                is("read(" + lane + ", " + as + ", 40, 1)", x.read(lane, as, 40, 1), 0);
                is("torn()", x.torn(), as == lane ? INDEX : CAST);
                is("read(3, " + as + ", 0, 1) of no cells", x.read(3, as, 0, 1), 0);
                is("torn()", x.torn(), as == lane ? INDEX : CAST);
            }
        }
        FloorYears x = corridor();
        for (int lane = 0; lane < 3; lane++) {
            for (int f : new int[] {LEAST, -1, 0, 40, GREATEST}) {
                is("read(3, " + lane + ", " + f + ", 20) of nothing", x.read(3, lane, f, 20), 0);
                stands(x, 0, 0, NULL);
            }
        }
    }

    private void readBad() {
        said(40, "BAD: k, lane, n;");
        House house = new House(() -> {
            FloorYears x = corridor();
            x.read(0, 1, 0, 1);
            return x;
        });
        for (House h : new House[] {House.EMPTY, House.RICH, House.FULL, house}) {
            bad(h, "read(#, 0, 0, 1)", 0, 3, (x, k) -> x.read(k, 0, 0, 1));
            bad(h, "read(#, 0, 0, 0)", 0, 3, (x, k) -> x.read(k, 0, 0, 0));
            bad(h, "read(0, #, 0, 1)", 0, 2, (x, lane) -> x.read(0, lane, 0, 1));
            bad(h, "read(0, #, 0, 0)", 0, 2, (x, lane) -> x.read(0, lane, 0, 0));
            bad(h, "read(0, 0, 0, #)", 0, 20, (x, n) -> x.read(0, 0, 0, n));
            bad(h, "read(3, 2, 40, #)", 0, 20, (x, n) -> x.read(3, 2, 40, n));
        }
    }

    private void readRefused() {
        said(40, "-20 less i: the i-th is refused by undo() (in whichever way),");
        for (int i = 0; i < 20; i++) {
            int at = i;
            for (int guest : new int[] {-1, 2, 127}) {
                House house = new House(EdgesOfSheets::corridor).behind(x -> x.lay(0, at, guest));
                still(house, call("read(0, 0, 0, 20), there is no " + at + "-th", x -> x.read(0, 0, 0, 20), -20 - at));
                FloorYears x = house.make();
                is("read(0, 0, 0, " + i + "), up to him", x.read(0, 0, 0, i), i);
                stands(x, i % 2, i, 0);
            }
        }
        // 0 is so behind the first, then 1 may not be.
        House clash = new House(EdgesOfSheets::corridor).behind(x -> x.lay(0, 1, 1));
        still(clash, call("read(0, 0, 0, 2), not allowed", x -> x.read(0, 0, 0, 2), -21),
            call("read(0, 0, 0, 20), not allowed", x -> x.read(0, 0, 0, 20), -21));
        House now = new House(EdgesOfSheets::corridor).behind(x -> x.alter(1, 3, 1));
        still(now, call("read(0, 0, 0, 1), not allowed", x -> x.read(0, 0, 0, 1), -20));
    }

    private void readLastYear() {
        said(40, "or YEAR is 999: then none came;");
        for (int year : new int[] {979, 980, 989, 998, 999}) {
            House house = new House(() -> goTo(corridor(), year));
            int room = 999 - year;
            if (room < 20) {
                still(house, call("read(1, 1, 0, 20) in " + year, x -> x.read(1, 1, 0, 20), -20 - room),
                    call("read(1, 1, 0, one too many) in " + year, x -> x.read(1, 1, 0, room + 1), -20 - room));
            }
            FloorYears x = house.make();
            is("read(1, 1, 0, " + room + ") in " + year, x.read(1, 1, 0, room), room);
            stands(x, room % 2, 999, 0);
            is("read(1, 1, 0, 1) in 999", x.read(1, 1, 0, 1), -20);
            stands(x, room % 2, 999, 0);
            is("read(1, 1, 0, 0) in 999", x.read(1, 1, 0, 0), 0);
        }
    }

    private void readFirstMet() {
        said(40, "the first met.");
        // A guest that there is not ahead of the end of the row, and behind it.
        House ahead = new House(EdgesOfSheets::corridor).behind(x -> x.lay(0, 39, 9));
        still(ahead, call("read(0, 0, 38, 3)", x -> x.read(0, 0, 38, 3), -21));
        FloorYears x = ahead.make();
        is("read(0, 0, 40, 3)", x.read(0, 0, 40, 3), 0);
        stands(x, 0, 0, INDEX);
        // The row ends, ahead of the year that there is not.
        x = goTo(corridor(), 998);
        is("read(0, 0, 39, 2) in 998", x.read(0, 0, 39, 2), 1);
        stands(x, 1, 999, INDEX);
        is("read(0, 0, 40, 1) in 999", x.read(0, 0, 40, 1), 0);
        stands(x, 1, 999, INDEX);
        is("read(0, 1, 0, 1) in 999", x.read(0, 1, 0, 1), 0);
        stands(x, 1, 999, CAST);
        is("read(3, 1, 0, 1) in 999", x.read(3, 1, 0, 1), 0);
        stands(x, 1, 999, NULL);
        // The last year, ahead of a guest that there is not and of the end of the row.
        x = goTo(corridor(), 998);
        x.lay(0, 39, 9);
        is("read(0, 0, 37, 20) in 998", x.read(0, 0, 37, 20), -21);
        stands(x, 0, 998, 0);
    }

    private void torn() {
        said(41, "The FAULT of the latest read() that came to an end; 0.");
        FloorYears x = corridor();
        x.lay(1, 5, 9);
        is("torn() at first", x.torn(), 0);
        int[][] reads = {{3, 0, 0, NULL}, {0, 0, 40, INDEX}, {0, 1, 0, CAST}, {0, 0, 39, INDEX}};
        for (int[] r : reads) {
            x.read(r[0], r[1], r[2], 2);
            is("torn()", x.torn(), r[3]);
            x.read(1, 1, 5, 1);
            is("torn() behind one that was refused by undo()", x.torn(), r[3]);
            x.read(4, 0, 0, 1);
            x.read(0, 3, 0, 1);
            x.read(0, 0, 0, 21);
            is("torn() behind one that was BAD", x.torn(), r[3]);
            x.lay(0, 40, 0);
            x.sheet(0, 0, -1);
            is("torn(), for no other call tells it", x.torn(), r[3]);
        }
        x.read(0, 0, 0, 1);
        is("torn() behind one without a FAULT", x.torn(), 0);
        x.read(0, 1, 0, 1);
        x.read(0, 0, 0, 0);
        is("torn() behind one of nobody", x.torn(), 0);
        x.read(0, 1, 0, 1);
        x.text();
        is("torn() behind a text", x.torn(), CAST);
    }

    private void count() {
        said(42, "How many: 0 SEEN, 1 IMAGES, 2 bytes on THE TAPE, 3 CELLS of SHEET 0 (NONE: nothing), 4 THINGS that are SO, "
            + "5 all PRICES. BAD.");
        are("count(#)", new FloorYears(), FloorYears::count, 0, 0, 0, NONE, 0, 0, BAD);
        FloorYears x = Due.of(plain(6) + "so 0;so 1;so 2;so 3;so 4;so 5;" + "guest 5 9;".repeat(4));
        for (int i = 0; i < 6; i++) {
            x.see(0, 0, true);
        }
        x.keep(0);
        x.keep(1);
        x.sheet(0, 2, 40);
        Due.feed(x, "z".repeat(160));
        are("count(#) of most", x, FloorYears::count, 6, 2, 160, 40, 6, 36, BAD);
        x.sheet(0, 0, 0);
        is("count(3) of no cells", x.count(3), 0);
        for (int k = 1; k < 4; k++) {
            FloorYears y = new FloorYears();
            y.sheet(k, 0, 7);
            is("count(3), for sheet 0 has nothing", y.count(3), NONE);
        }
        for (House house : new House[] {House.EMPTY, House.RICH, House.FULL}) {
            bad(house, "count(#)", 0, 5, FloorYears::count);
        }
    }
}
