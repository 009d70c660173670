import java.util.Random;

/** The program beside the model: the same calls, drawn by fixed seeds, must answer alike. */
public final class ModelTest {
    private static final int RUNS = 1000;
    private static final int CALLS = 250;
    private static final int[] EDGES = {Integer.MIN_VALUE, -21, -11, -4, -2, -1, 0, 1, 2, 3, 4, 5, 6, 7,
        9, 10, 11, 13, 14, 15, 20, 21, 31, 32, 39, 40, 41, 59, 60, 61, 63, 64, 99, 100, 127, 128, 160,
        255, 256, 999, 1000, 65535, 65536, Integer.MAX_VALUE};
    private static final String[] KINDS = {"plain", "echo", "contrary", "jealous", "easy"};

    private final Due due = new Due();
    private final Random random;
    private final FloorYears x = new FloorYears();
    private final Model m = new Model();
    private final int[] lanes = new int[4];
    private int things;

    private ModelTest(int seed) {
        random = new Random(seed);
    }

    public static void main(String[] args) {
        Due all = new Due();
        for (int seed = 1; seed <= RUNS; seed++) {
            ModelTest t = new ModelTest(seed);
            t.due.about("seed " + seed);
            t.tell();
            for (int i = 0; i < CALLS; i++) {
                t.step();
            }
            t.due.finish(all);
        }
        all.finish();
    }

    private int upTo(int most) {
        return random.nextInt(most + 1);
    }

    /** Mostly within 0 to most, now and then at an edge. */
    private int near(int most) {
        int r = random.nextInt(20);
        if (r == 0) {
            return EDGES[random.nextInt(EDGES.length)];
        }
        return r == 1 ? random.nextInt(most + 3) - 1 : upTo(most);
    }

    private int aThing() {
        return near(Math.max(0, things - 1));
    }

    private int aState() {
        return near((1 << things) - 1);
    }

    private void same(String call, long got, long want) {
        due.is(call, got, want);
    }

    private void tell() {
        String t = aText();
        for (int i = 0; i < t.length(); i++) {
            int c = t.charAt(i);
            same("feed(" + c + ")", x.feed(c), m.feed(c));
        }
        if (random.nextInt(12) == 0) {
            int n = near(t.length());
            same("end(" + n + ")", x.end(n), m.end(n));
        }
        same("text() of '" + t + "'", x.text(), m.text());
        same("fault()", x.fault(), m.fault());
        things = m.rule(0);
        lookAtAll();
    }

    private String gap() {
        return " ".repeat(random.nextInt(8) == 0 ? upTo(2) : 1);
    }

    private String aText() {
        StringBuilder b = new StringBuilder();
        int many = random.nextInt(15) == 0 ? 7 : Math.max(upTo(6), upTo(6));
        int most = random.nextInt(25) == 0 ? 6 : Math.max(0, many - 1);
        for (int i = 0; i < many; i++) {
            int kind = upTo(4);
            b.append(KINDS[kind]);
            for (int j = 0; j < new int[] {0, 1, 1, 2, 2}[kind]; j++) {
                b.append(gap()).append(upTo(most));
            }
            b.append(random.nextInt(9) == 0 ? " ; " : ";");
        }
        for (int f = 0; f < many; f++) {
            if (random.nextInt(3) == 0) {
                b.append("so").append(gap()).append(random.nextInt(40) == 0 ? upTo(most) : f).append(';');
            }
        }
        for (int i = upTo(random.nextInt(15) == 0 ? 6 : 4); i > 0 && many > 0; i--) {
            b.append("guest").append(gap()).append(upTo(most)).append(' ')
                .append(random.nextInt(30) == 0 ? 10 : upTo(9)).append(';');
        }
        for (int i = upTo(random.nextInt(15) == 0 ? 6 : 4); i > 0 && many > 1; i--) {
            int f = upTo(most);
            int g = random.nextInt(30) == 0 ? f : (f + 1 + upTo(most - 1)) % (most + 1);
            b.append("ban ").append(f).append(' ').append(g).append(';');
        }
        return random.nextInt(4) == 0 ? spoil(b) : b.toString();
    }

    private String spoil(StringBuilder b) {
        String signs = " ;09157aplsoxz\n\t-@`{/:AZ\0\177";
        for (int i = 0; i <= random.nextInt(2); i++) {
            int at = upTo(b.length());
            char c = signs.charAt(random.nextInt(signs.length()));
            int how = random.nextInt(3);
            if (how == 0 || at == b.length()) {
                b.insert(at, c);
            } else if (how == 1) {
                b.setCharAt(at, c);
            } else {
                b.deleteCharAt(at);
            }
        }
        return b.toString();
    }

    private void lookAtAll() {
        for (int i = -1; i <= 7; i++) {
            same("rule(" + i + ")", x.rule(i), m.rule(i));
            for (int w = -1; w <= 5; w++) {
                same("thing(" + i + ", " + w + ")", x.thing(i, w), m.thing(i, w));
                same("guest(" + i + ", " + w + ")", x.guest(i, w), m.guest(i, w));
                same("ban(" + i + ", " + w + ")", x.ban(i, w), m.ban(i, w));
            }
            same("count(" + i + ")", x.count(i), m.count(i));
        }
        same("torn()", x.torn(), m.torn());
        same("fault()", x.fault(), m.fault());
    }

    private void step() {
        switch (random.nextInt(12)) {
            case 0, 1, 2:
                changeOne();
                break;
            case 3, 4:
                yearOne();
                break;
            case 5, 6:
                wayOne();
                break;
            case 7, 8:
                seenOne();
                break;
            case 9, 10:
                sheetOne();
                break;
            default:
                if (random.nextInt(6) == 0) {
                    tell();
                } else {
                    lookAtAll();
                }
                break;
        }
    }

    private void changeOne() {
        int f = aThing();
        int g = aThing();
        int w = near(3);
        switch (random.nextInt(6)) {
            case 0: {
                int v = w == 0 ? near(4) : w == 3 ? near(1) : g;
                same("alter(" + f + ", " + w + ", " + v + ")", x.alter(f, w, v), m.alter(f, w, v));
                break;
            }
            case 1: {
                int who = near(3);
                int what = near(1);
                int v = what == 0 ? f : near(9);
                same("hire(" + who + ", " + what + ", " + v + ")", x.hire(who, what, v),
                    m.hire(who, what, v));
                break;
            }
            case 2:
                same("forbid(" + f + ", " + g + ")", x.forbid(f, g), m.forbid(f, g));
                break;
            case 3: {
                int b = near(3);
                same("lift(" + b + ")", x.lift(b), m.lift(b));
                break;
            }
            default: {
                int who = near(3);
                same("undo(" + who + ")", x.undo(who), m.undo(who));
                break;
            }
        }
    }

    private void yearOne() {
        int s = aState();
        int w = near(3);
        int n = random.nextInt(3) == 0 ? near(99) : near(4);
        switch (random.nextInt(9)) {
            case 0:
                for (int i = random.nextInt(10) == 0 ? 11 : 0; i > 0; i--) {
                    same("go(99)", x.go(99), m.go(99));
                }
                same("go(" + n + ")", x.go(n), m.go(n));
                break;
            case 1:
                same("ahead(" + n + ")", x.ahead(n), m.ahead(n));
                break;
            case 2:
                same("next(" + s + ")", x.next(s), m.next(s));
                break;
            case 3:
                same("ring(" + w + ")", x.ring(w), m.ring(w));
                break;
            case 4:
                same("rings(" + w + ")", x.rings(w), m.rings(w));
                break;
            case 5:
                same("agree(" + w + ")", x.agree(w), m.agree(w));
                break;
            case 6: {
                int what = near(1);
                same("before(" + s + ", " + what + ")", x.before(s, what), m.before(s, what));
                break;
            }
            case 7:
                same("gardens()", x.gardens(), m.gardens());
                break;
            default:
                same("clash()", x.clash(), m.clash());
                break;
        }
    }

    private void wayOne() {
        int f = aThing();
        int w = near(1);
        int v = near(10);
        switch (random.nextInt(7)) {
            case 0: {
                int so = near(1);
                int what = random.nextBoolean() ? w : 10 + near(3);
                same("way(" + f + ", " + so + ", " + what + ")", x.way(f, so, what), m.way(f, so, what));
                break;
            }
            case 1: {
                int n = near(4);
                int what = random.nextBoolean() ? near(0) : 10 + near(3);
                same("peace(" + n + ", " + what + ")", x.peace(n, what), m.peace(n, what));
                break;
            }
            case 2:
                same("amend(" + w + ")", x.amend(w), m.amend(w));
                break;
            case 3:
                same("strict(" + w + ")", x.strict(w), m.strict(w));
                break;
            case 4:
                same("luck(" + v + ", " + w + ")", x.luck(v, w), m.luck(v, w));
                break;
            case 5:
                same("calm(" + v + ", " + w + ")", x.calm(v, w), m.calm(v, w));
                break;
            default:
                same("mean(" + v + ", " + w + ")", x.mean(v, w), m.mean(v, w));
                break;
        }
    }

    private void seenOne() {
        int w = near(3);
        int b = near(1);
        switch (random.nextInt(7)) {
            case 0, 1: {
                int f = aThing();
                int n = near(9);
                boolean is = random.nextBoolean();
                same("see(" + f + ", " + n + ", " + is + ")", x.see(f, n, is), m.see(f, n, is));
                break;
            }
            case 2: {
                int n = near(6);
                same("forget(" + n + ")", x.forget(n), m.forget(n));
                break;
            }
            case 3:
                same("fits(" + w + ")", x.fits(w), m.fits(w));
                break;
            case 4, 5:
                same("look(" + b + ")", x.look(b), m.look(b));
                break;
            default: {
                int seed = random.nextInt();
                int n = 1 + near(59);
                same("drift(" + seed + ", " + n + ", " + b + ")", x.drift(seed, n, b),
                    m.drift(seed, n, b));
                break;
            }
        }
    }

    private void sheetOne() {
        int k = near(random.nextInt(3) == 0 ? 3 : 1);
        int lane = random.nextBoolean() && k >= 0 && k < 4 ? lanes[k] : near(2);
        switch (random.nextInt(7)) {
            case 0: {
                int n = near(40);
                int made = m.sheet(k, lane, n);
                same("sheet(" + k + ", " + lane + ", " + n + ")", x.sheet(k, lane, n), made);
                if (made == 1) {
                    lanes[k] = lane;
                }
                break;
            }
            case 1, 2, 3: {
                int i = near(8);
                int v = random.nextInt(4) == 0 ? random.nextInt() & ~252 : near(3);
                same("lay(" + k + ", " + i + ", " + v + ")", x.lay(k, i, v), m.lay(k, i, v));
                break;
            }
            case 4, 5: {
                int f = near(6);
                int n = near(random.nextBoolean() ? 3 : 20);
                same("read(" + k + ", " + lane + ", " + f + ", " + n + ")", x.read(k, lane, f, n),
                    m.read(k, lane, f, n));
                same("torn()", x.torn(), m.torn());
                same("rule(4)", x.rule(4), m.rule(4));
                same("rule(3)", x.rule(3), m.rule(3));
                break;
            }
            default: {
                int i = near(1);
                if (random.nextBoolean()) {
                    same("keep(" + i + ")", x.keep(i), m.keep(i));
                } else {
                    same("back(" + i + ")", x.back(i), m.back(i));
                }
                break;
            }
        }
    }
}
