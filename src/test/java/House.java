import java.util.ArrayList;
import java.util.List;
import java.util.function.Function;
import java.util.function.Supplier;

/**
 * An object that can be made again and again, and everything that calls show of it. Some of that can be
 * seen only by changing it (the bytes on the tape, images, cells), so each look is at a new object; no
 * look takes it beyond the 512 calls of the document.
 */
final class House {
    private static final String RICH_TEXT = "plain;echo 0;contrary 1;jealous 2 0;easy 3 1;echo 5;so 0;so 3;"
        + "guest 0 4;guest 3 2;guest 4 0;guest 5 9;ban 1 4;ban 2 5;";

    /** A new object. */
    static final House EMPTY = new House(FloorYears::new);
    /** Something of everything, and room for more of it. */
    static final House RICH = new House(House::rich);
    /** As much of everything as there may be, in the last year. */
    static final House FULL = new House(House::full);

    private static final List<Function<FloorYears, List<String>>> LOOKS = List.of(House::whatThereIs,
        House::years, House::ways, House::slips, House::sights, House::byASeed, House::cells,
        House::theTape, x -> image(x, 0), x -> image(x, 1));

    private final Supplier<FloorYears> how;
    private List<List<String>> shown;

    House(Supplier<FloorYears> how) {
        this.how = how;
    }

    static House of(String text) {
        return new House(() -> Due.of(text));
    }

    FloorYears make() {
        return how.get();
    }

    /** The same house behind further calls. */
    House behind(Function<FloorYears, ?> calls) {
        return new House(() -> {
            FloorYears x = how.get();
            calls.apply(x);
            return x;
        });
    }

    /** Everything that calls show, a list for each look. */
    List<List<String>> shown() {
        if (shown == null) {
            shown = new ArrayList<>();
            for (Function<FloorYears, List<String>> look : LOOKS) {
                shown.add(look.apply(how.get()));
            }
        }
        return shown;
    }

    /** The first that two houses show otherwise, but for calls that begin so; empty if there is none. */
    static String firstUnlike(House a, House b, String but) {
        for (int i = 0; i < LOOKS.size(); i++) {
            List<String> one = a.shown().get(i);
            List<String> other = b.shown().get(i);
            for (int j = 0; j < one.size(); j++) {
                if (!one.get(j).equals(other.get(j)) && !one.get(j).startsWith(but)) {
                    return one.get(j) + " became " + other.get(j);
                }
            }
        }
        return "";
    }

    static String firstUnlike(House a, House b) {
        return firstUnlike(a, b, "nothing else");
    }

    private static FloorYears rich() {
        FloorYears x = Due.of(RICH_TEXT);
        x.keep(1);
        x.go(2);
        x.alter(5, 3, 1);
        x.keep(0);
        x.go(3);
        x.hire(2, 1, 6);
        x.see(4, 3, true);
        x.see(1, 0, false);
        x.see(5, 9, true);
        x.sheet(1, 0, 4);
        x.sheet(2, 1, 3);
        x.sheet(3, 2, 40);
        for (int i = 0; i < 4; i++) {
            x.lay(1, i, i);
            x.lay(3, 36 + i, 3 - i);
        }
        x.lay(2, 1, -1);
        x.lay(2, 2, 3);
        x.read(1, 2, 0, 1);
        Due.tell(x, "@");
        Due.feed(x, "plain;so 0;");
        return x;
    }

    private static FloorYears full() {
        FloorYears x = Due.of(RICH_TEXT + "ban 0 5;ban 3 5;");
        x.keep(0);
        x.alter(1, 1, 2);
        x.keep(1);
        for (int i = 0; i < 10; i++) {
            x.go(99);
        }
        x.go(9);
        for (int i = 0; i < 6; i++) {
            x.see(i, i, i % 2 == 0);
        }
        for (int k = 0; k < 4; k++) {
            x.sheet(k, k % 3, 40);
            x.lay(k, 39, k);
        }
        Due.feed(x, "plain;so 0;" + " ".repeat(143) + "echo 0");
        return x;
    }

    private static void note(List<String> into, String call, long answer) {
        into.add(call + " " + answer);
    }

    private static List<String> whatThereIs(FloorYears x) {
        List<String> all = new ArrayList<>();
        for (int what = 0; what <= 6; what++) {
            note(all, "rule(" + what + ")", x.rule(what));
            note(all, "count(" + what + ")", x.count(what));
        }
        for (int i = 0; i < 6; i++) {
            for (int what = 0; what < 5; what++) {
                note(all, "thing(" + i + ", " + what + ")", x.thing(i, what));
            }
        }
        for (int i = 0; i < 4; i++) {
            for (int what = 0; what < 3; what++) {
                note(all, "guest(" + i + ", " + what + ")", x.guest(i, what));
                note(all, "ban(" + i + ", " + what + ")", x.ban(i, what));
            }
        }
        note(all, "fault()", x.fault());
        note(all, "torn()", x.torn());
        return all;
    }

    private static List<String> years(FloorYears x) {
        List<String> all = new ArrayList<>();
        for (int n : new int[] {0, 1, 2, 3, 98, 99}) {
            note(all, "ahead(" + n + ")", x.ahead(n));
        }
        for (int state = 0; state < 64; state++) {
            note(all, "next(" + state + ")", x.next(state));
        }
        for (int what = 0; what < 4; what++) {
            note(all, "ring(" + what + ")", x.ring(what));
            note(all, "rings(" + what + ")", x.rings(what));
            note(all, "agree(" + what + ")", x.agree(what));
            note(all, "before(ahead, " + what + ")", x.before(x.ahead(1), what));
        }
        note(all, "gardens()", x.gardens());
        note(all, "clash()", x.clash());
        return all;
    }

    private static List<String> ways(FloorYears x) {
        List<String> all = new ArrayList<>();
        int[] whats = {0, 1, 10, 11, 12, 13};
        for (int f = 0; f < 6; f++) {
            for (int what : whats) {
                note(all, "way(" + f + ", 0, " + what + ")", x.way(f, 0, what));
                note(all, "way(" + f + ", 1, " + what + ")", x.way(f, 1, what));
            }
        }
        for (int n = 0; n <= 4; n++) {
            for (int what : whats) {
                note(all, "peace(" + n + ", " + what + ")", x.peace(n, what));
            }
        }
        for (int what = 0; what < 2; what++) {
            note(all, "amend(" + what + ")", x.amend(what));
            note(all, "strict(" + what + ")", x.strict(what));
        }
        return all;
    }

    private static List<String> slips(FloorYears x) {
        List<String> all = new ArrayList<>();
        for (int v = 0; v <= 10; v++) {
            for (int what = 0; what < 2; what++) {
                note(all, "luck(" + v + ", " + what + ")", x.luck(v, what));
                note(all, "calm(" + v + ", " + what + ")", x.calm(v, what));
                note(all, "mean(" + v + ", " + what + ")", x.mean(v, what));
            }
        }
        return all;
    }

    private static List<String> sights(FloorYears x) {
        List<String> all = new ArrayList<>();
        for (int n = 6; n >= 0; n--) {
            note(all, "forget(" + n + ")", x.forget(n));
            for (int what = 0; what < 4; what++) {
                note(all, "fits(" + what + ")", x.fits(what));
                note(all, "look(" + what + ")", x.look(what));
            }
        }
        return all;
    }

    private static List<String> byASeed(FloorYears x) {
        List<String> all = new ArrayList<>();
        for (int seed = -3; seed <= 3; seed++) {
            note(all, "drift(" + seed + ", 60, 0)", x.drift(seed, 60, 0));
            note(all, "drift(" + seed + ", 7, 1)", x.drift(seed, 7, 1));
        }
        for (int g = 0; g < 4; g++) {
            note(all, "undo(" + g + ")", x.undo(g));
            note(all, "go(1)", x.go(1));
        }
        return all;
    }

    /** Each cell is told by which guest comes; an image is brought back, for in year 999 nobody does. */
    private static List<String> cells(FloorYears x) {
        List<String> all = new ArrayList<>();
        for (int k = 0; k < 4; k++) {
            for (int lane = 0; lane < 3; lane++) {
                x.back(1);
                note(all, "read(" + k + ", " + lane + ", 0, 1)", x.read(k, lane, 0, 1));
                note(all, "torn()", x.torn());
                note(all, "rule(4)", x.rule(4));
            }
        }
        for (int k = 0; k < 4; k++) {
            for (int i : new int[] {1, 2, 3, 4, 36, 37, 38, 39}) {
                note(all, "read(" + k + ", its lane, " + i + ", 1)", x.read(k, laneOf(all, k), i, 1));
                note(all, "rule(4)", x.rule(4));
            }
        }
        return all;
    }

    /** The lane by which a sheet was no other lane's, as the rows of {@link #cells} told before. */
    private static int laneOf(List<String> all, int k) {
        for (int lane = 0; lane < 3; lane++) {
            if (!all.get(9 * k + 3 * lane + 1).equals("torn() 3")) {
                return lane;
            }
        }
        return 0;
    }

    private static List<String> theTape(FloorYears x) {
        List<String> all = new ArrayList<>();
        int length = x.count(2);
        note(all, "end(all)", x.end(length));
        note(all, "text()", x.text());
        note(all, "the fault of text()", x.fault());
        all.addAll(whatThereIs(x));
        return all;
    }

    private static List<String> image(FloorYears x, int k) {
        List<String> all = new ArrayList<>();
        note(all, "back(" + k + ")", x.back(k));
        all.addAll(whatThereIs(x));
        return all;
    }
}
