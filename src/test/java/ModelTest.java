import java.lang.reflect.InvocationTargetException;
import java.lang.reflect.Method;
import java.util.Arrays;
import java.util.HashMap;
import java.util.Map;
import java.util.Random;

/** The program beside the model: the same calls, drawn by fixed seeds, must answer alike, all 512 of them. */
public final class ModelTest {
    private static final int RUNS = 2000;
    /** "An object is used for at most 512 calls after it has been made": each run is as long as that. */
    private static final int CALLS = 512;
    private static final int[] EDGES = {Integer.MIN_VALUE, -21, -11, -4, -2, -1, 0, 1, 2, 3, 4, 5, 6, 7,
        9, 10, 11, 13, 14, 15, 20, 21, 31, 32, 39, 40, 41, 59, 60, 61, 63, 64, 99, 100, 127, 128, 160,
        255, 256, 999, 1000, 65535, 65536, Integer.MAX_VALUE};
    private static final String[] KINDS = {"plain", "echo", "contrary", "jealous", "easy"};
    private static final Map<String, Method> OF_PROGRAM = methods(FloorYears.class);
    private static final Map<String, Method> OF_MODEL = methods(Model.class);

    /** How many numbers step() draws of. */
    private static final int STEPS = 13;

    private final Due due = new Due();
    private final int seed;
    private final Random random;
    private final FloorYears x = new FloorYears();
    private final Model m = new Model();
    private final int[] lanes = new int[4];
    /** The step that this run takes more than others, so that what it changes piles up. */
    private final int dear;
    private int calls;
    private int things;

    private ModelTest(int seed) {
        this.seed = seed;
        random = new Random(seed);
        dear = random.nextInt(STEPS);
    }

    public static void main(String[] args) {
        Due all = new Due();
        for (int seed = 1; seed <= RUNS; seed++) {
            ModelTest t = new ModelTest(seed);
            t.run();
            t.due.finish(all);
        }
        all.is("calls of all runs", all.asked(), (long) RUNS * CALLS);
        all.finish();
    }

    private static Map<String, Method> methods(Class<?> of) {
        Map<String, Method> byName = new HashMap<>();
        for (Method method : of.getDeclaredMethods()) {
            byName.put(method.getName(), method);
        }
        return byName;
    }

    private static long answer(Method method, Object on, Object... with) {
        try {
            return ((Number) method.invoke(on, with)).longValue();
        } catch (IllegalAccessException | InvocationTargetException e) {
            throw new IllegalStateException(method + " of " + Arrays.toString(with), e);
        }
    }

    /** Most runs have a text told at once; the others find nothing there for a while. */
    private void run() {
        if (random.nextInt(20) != 0) {
            tell();
        }
        while (calls < CALLS) {
            step();
        }
    }

    /** The call on both, unless the object has had all the calls that it is used for; what the model answers. */
    private long same(String call, Object... with) {
        if (calls == CALLS) {
            return Model.BAD;
        }
        calls++;
        long want = answer(OF_MODEL.get(call), m, with);
        due.about("seed " + seed + ", call " + calls);
        due.is(call + Arrays.toString(with), answer(OF_PROGRAM.get(call), x, with), want);
        return want;
    }

    private int upTo(int most) {
        return random.nextInt(most + 1);
    }

    /** Mostly within 0 to most, now and then at an edge. */
    private int near(int most) {
        int r = random.nextInt(20);
        if (r == 0) {
            return EDGES[random.nextInt(EDGES.length)];
        }
        return r == 1 ? random.nextInt(most + 3) - 1 : upTo(most);
    }

    private int aThing() {
        return near(Math.max(0, things - 1));
    }

    private int aState() {
        return near((1 << things) - 1);
    }

    private void tell() {
        String t = aText();
        if (m.count(2) > 0 && random.nextInt(10) != 0) {
            same("end", 0);
        }
        for (int i = 0; i < t.length(); i++) {
            int c = t.charAt(i);
            same("feed", c);
        }
        if (random.nextInt(12) == 0) {
            int n = near(t.length());
            same("end", n);
        }
        same("text");
        same("fault");
        things = m.rule(0);
        lookAround(4);
    }

    /** The number of a thing in a text: now and then one that is not there, or out of bounds, or in two figures. */
    private String named(int f) {
        int then = random.nextInt(60) == 0 ? upTo(7) : f;
        return (random.nextInt(15) == 0 ? "0" : "") + then;
    }

    private String gap() {
        return " ".repeat(random.nextInt(8) == 0 ? upTo(2) : 1);
    }

    private String aText() {
        StringBuilder b = new StringBuilder();
        int many = random.nextInt(15) == 0 ? 7 : Math.max(upTo(6), upTo(6));
        int most = random.nextInt(25) == 0 ? 6 : Math.max(0, many - 1);
        for (int i = 0; i < many; i++) {
            int kind = upTo(4);
            b.append(KINDS[kind]);
            for (int j = 0; j < new int[] {0, 1, 1, 2, 2}[kind]; j++) {
                b.append(gap()).append(named(upTo(most)));
            }
            b.append(random.nextInt(9) == 0 ? " ; " : ";");
        }
        for (int f = 0; f < many; f++) {
            if (random.nextInt(3) == 0) {
                b.append("so").append(gap()).append(named(f)).append(';');
            }
        }
        for (int i = upTo(random.nextInt(15) == 0 ? 6 : 4); i > 0 && many > 0; i--) {
            b.append("guest").append(gap()).append(named(upTo(most))).append(' ')
                .append(random.nextInt(30) == 0 ? 10 : upTo(9)).append(';');
        }
        for (int i = upTo(random.nextInt(15) == 0 ? 6 : 4); i > 0 && many > 1; i--) {
            int f = upTo(most);
            int g = random.nextInt(30) == 0 ? f : (f + 1 + upTo(most - 1)) % (most + 1);
            b.append("ban ").append(named(f)).append(' ').append(named(g)).append(';');
        }
        return random.nextInt(4) == 0 ? spoil(b) : b.toString();
    }

    private String spoil(StringBuilder b) {
        String signs = " ;09157aplsoxz\n\t-@`{/:AZ\0\177";
        for (int i = 0; i <= random.nextInt(2); i++) {
            int at = upTo(b.length());
            char c = signs.charAt(random.nextInt(signs.length()));
            int how = random.nextInt(3);
            if (how == 0 || at == b.length()) {
                b.insert(at, c);
            } else if (how == 1) {
                b.setCharAt(at, c);
            } else {
                b.deleteCharAt(at);
            }
        }
        return b.toString();
    }

    /** One call in so many of those that show what there is, each of them drawn. */
    private void lookAround(int oneIn) {
        for (int i = -1; i <= 7; i++) {
            sometimes(oneIn, "rule", i);
            for (int w = -1; w <= 5; w++) {
                sometimes(oneIn, "thing", i, w);
                sometimes(oneIn, "guest", i, w);
                sometimes(oneIn, "ban", i, w);
            }
            sometimes(oneIn, "count", i);
        }
        sometimes(oneIn, "torn");
        sometimes(oneIn, "fault");
    }

    private void sometimes(int oneIn, String call, Object... with) {
        if (random.nextInt(oneIn) == 0) {
            same(call, with);
        }
    }

    private void step() {
        switch (random.nextBoolean() ? dear : random.nextInt(STEPS)) {
            case 0, 1, 2:
                changeOne();
                break;
            case 3, 4:
                yearOne();
                break;
            case 5, 6:
                wayOne();
                break;
            case 7, 8:
                seenOne();
                break;
            case 9, 10:
                sheetOne();
                break;
            case 11:
                tapeOne();
                break;
            default:
                if (random.nextInt(20) == 0) {
                    tell();
                } else {
                    lookAround(20);
                }
                break;
        }
    }

    private void tapeOne() {
        if (random.nextInt(3) == 0) {
            same("end", near(m.count(2)));
        } else {
            same("feed", random.nextInt(4) == 0 ? random.nextInt(132) - 2 : near(127));
        }
    }

    private void changeOne() {
        int f = aThing();
        int g = aThing();
        int w = near(3);
        switch (random.nextInt(6)) {
            case 0: {
                int v = w == 0 ? near(4) : w == 3 ? near(1) : g;
                same("alter", f, w, v);
                break;
            }
            case 1: {
                int who = near(3);
                int what = near(1);
                int v = what == 0 ? f : near(9);
                same("hire", who, what, v);
                break;
            }
            case 2:
                same("forbid", f, g);
                break;
            case 3: {
                int b = near(3);
                same("lift", b);
                break;
            }
            default: {
                int who = near(3);
                same("undo", who);
                break;
            }
        }
    }

    private void yearOne() {
        int s = aState();
        int w = near(3);
        int n = random.nextInt(3) == 0 ? near(99) : near(4);
        switch (random.nextInt(9)) {
            case 0:
                for (int i = random.nextInt(10) == 0 ? 11 : 0; i > 0; i--) {
                    same("go", 99);
                }
                same("go", n);
                break;
            case 1:
                same("ahead", n);
                break;
            case 2:
                same("next", s);
                break;
            case 3:
                same("ring", w);
                break;
            case 4:
                same("rings", w);
                break;
            case 5:
                same("agree", w);
                break;
            case 6: {
                int what = near(1);
                same("before", s, what);
                break;
            }
            case 7:
                same("gardens");
                break;
            default:
                same("clash");
                break;
        }
    }

    private void wayOne() {
        int f = aThing();
        int w = near(1);
        int v = near(10);
        switch (random.nextInt(7)) {
            case 0: {
                int so = near(1);
                int what = random.nextBoolean() ? w : 10 + near(3);
                same("way", f, so, what);
                break;
            }
            case 1: {
                int n = near(4);
                int what = random.nextBoolean() ? near(0) : 10 + near(3);
                same("peace", n, what);
                break;
            }
            case 2:
                same("amend", w);
                break;
            case 3:
                same("strict", w);
                break;
            case 4:
                same("luck", v, w);
                break;
            case 5:
                same("calm", v, w);
                break;
            default:
                same("mean", v, w);
                break;
        }
    }

    private boolean willBeSo(int f, int n) {
        return f >= 0 && f < things && (m.ahead(n) >> f & 1) == 1;
    }

    private void seenOne() {
        int w = near(3);
        int b = near(1);
        switch (random.nextInt(7)) {
            case 0, 1: {
                int f = aThing();
                int n = near(9);
                // Mostly what will be so from the state now, that some state is left to fit.
                boolean is = random.nextInt(6) == 0 ? random.nextBoolean() : willBeSo(f, n);
                same("see", f, n, is);
                break;
            }
            case 2: {
                int n = near(6);
                same("forget", n);
                break;
            }
            case 3:
                same("fits", w);
                break;
            case 4, 5:
                same("look", b);
                break;
            default: {
                int seed = random.nextInt();
                int n = 1 + near(59);
                same("drift", seed, n, b);
                break;
            }
        }
    }

    private void sheetOne() {
        int k = near(random.nextInt(3) == 0 ? 3 : 0);
        int lane = random.nextInt(4) != 0 && k >= 0 && k < 4 ? lanes[k] : near(2);
        switch (random.nextInt(7)) {
            case 0: {
                int n = near(random.nextInt(4) == 0 ? 40 : 6);
                int ofLane = near(2);
                if (same("sheet", k, ofLane, n) == 1) {
                    lanes[k] = ofLane;
                }
                break;
            }
            case 1, 2, 3: {
                int i = near(4);
                int v = near(3) + (random.nextInt(4) == 0 ? (random.nextInt(5) - 2) << 8 * upTo(3) : 0);
                same("lay", k, i, v);
                break;
            }
            case 4, 5: {
                int f = near(4);
                int n = near(random.nextBoolean() ? 3 : 20);
                same("read", k, lane, f, n);
                same("torn");
                same("rule", 4);
                same("rule", 3);
                break;
            }
            default: {
                int i = near(1);
                if (random.nextBoolean()) {
                    same("keep", i);
                } else {
                    same("back", i);
                }
                break;
            }
        }
    }
}
