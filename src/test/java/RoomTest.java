import java.lang.management.ManagementFactory;
import java.lang.reflect.InvocationTargetException;
import java.lang.reflect.Method;
import java.lang.reflect.Modifier;
import java.util.Random;

/** No call throws, whatever it is given, and behind the constructor no call makes an object. */
public final class RoomTest {
    private static final Due DUE = new Due();
    private static final int[] EDGES = {Integer.MIN_VALUE, Integer.MIN_VALUE + 1, -1, 0, 1, 2, 3, 5, 6, 10,
        13, 40, 63, 64, 99, 127, 160, Integer.MAX_VALUE - 1, Integer.MAX_VALUE};
    private static final String RICH = "contrary 1;echo 0;easy 0 3;jealous 2 4;echo 3;plain;so 0;so 4;"
        + "guest 0 1;guest 5 2;guest 2 3;guest 3 0;ban 0 5;ban 1 3;";

    public static void main(String[] args) throws IllegalAccessException {
        everyEdge();
        longRuns();
        noObjects();
        DUE.finish();
    }

    private static Object call(FloorYears x, Method m, Object... with) throws IllegalAccessException {
        try {
            return m.invoke(x, with);
        } catch (InvocationTargetException e) {
            DUE.holds(m + " threw " + e.getCause(), false);
            return null;
        }
    }

    private static Object[] arguments(Method m, Random random, boolean edges) {
        Object[] with = new Object[m.getParameterCount()];
        for (int i = 0; i < with.length; i++) {
            if (m.getParameterTypes()[i] == boolean.class) {
                with[i] = random.nextBoolean();
            } else {
                with[i] = edges ? EDGES[random.nextInt(EDGES.length)] : random.nextInt(8) - 1;
            }
        }
        return with;
    }

    private static void everyEdge() throws IllegalAccessException {
        DUE.about("edges");
        Random random = new Random(11);
        for (String text : new String[] {"", "plain;", RICH}) {
            for (Method m : FloorYears.class.getDeclaredMethods()) {
                for (int i = 0; i < 400 && Modifier.isPublic(m.getModifiers()); i++) {
                    FloorYears x = Due.of(text);
                    x.sheet(0, i % 3, 40);
                    call(x, m, arguments(m, random, true));
                }
            }
        }
        DUE.holds("all were called", true);
    }

    private static void longRuns() throws IllegalAccessException {
        DUE.about("long runs");
        Method[] methods = FloorYears.class.getDeclaredMethods();
        for (int seed = 0; seed < 300; seed++) {
            Random random = new Random(seed);
            FloorYears x = seed % 3 == 0 ? new FloorYears() : Due.of(RICH);
            for (int i = RICH.length() + 1; i < 510; i++) {
                Method m = methods[random.nextInt(methods.length)];
                if (Modifier.isPublic(m.getModifiers()) && !(m.getName().equals("text") && i % 50 != 0)) {
                    call(x, m, arguments(m, random, random.nextInt(4) == 0));
                }
            }
            DUE.holds("the state is one of the things", x.next(x.rule(4)) >= 0);
        }
    }

    /** Every call once, with arguments by which it does its dearest work. */
    private static long dearCalls(FloorYears x) {
        long sum = 0;
        for (int i = 0; i < RICH.length(); i++) {
            sum += x.feed(RICH.charAt(i));
        }
        sum += x.text() + x.fault();
        for (int what = 0; what < 4; what++) {
            sum += x.rule(what) + x.thing(0, what) + x.guest(0, what) + x.ban(0, what) + x.ring(what)
                + x.rings(what) + x.agree(what) + x.fits(what) + x.before(what, 0) + x.peace(what, 0)
                + x.way(what, 1, 0) + x.way(what, 0, 10) + x.count(what);
        }
        sum += x.alter(5, 0, 2) + x.hire(0, 1, 2) + x.forbid(0, 1) + x.lift(0) + x.undo(1) + x.go(1)
            + x.ahead(99) + x.next(63) + x.gardens() + x.clash() + x.peace(4, 0) + x.amend(0) + x.strict(0)
            + x.luck(3, 0) + x.calm(3, 0) + x.mean(3, 0) + x.see(0, 9, true) + x.look(0) + x.forget(0)
            + x.drift(5, 60, 0) + x.keep(0) + x.back(0) + x.sheet(0, 1, 40) + x.lay(0, 0, 1)
            + x.read(0, 1, 0, 20) + x.torn() + x.end(0);
        return sum;
    }

    private static void noObjects() {
        DUE.about("room");
        if (!(ManagementFactory.getThreadMXBean() instanceof com.sun.management.ThreadMXBean threads)
                || !threads.isThreadAllocatedMemoryEnabled()) {
            System.out.println("this machine does not count what a thread makes: not looked at");
            return;
        }
        long self = Thread.currentThread().getId();
        // Two rounds are fewer than the 512 calls that an object is used for.
        FloorYears[] objects = new FloorYears[110];
        for (int i = 0; i < objects.length; i++) {
            objects[i] = new FloorYears();
        }
        long sum = 0;
        for (int i = 0; i < 20; i++) {
            sum += dearCalls(objects[100 + i / 2]) + threads.getThreadAllocatedBytes(self) % 2;
        }
        long before = threads.getThreadAllocatedBytes(self);
        for (int i = 0; i < 200; i++) {
            sum += dearCalls(objects[i / 2]);
        }
        long made = threads.getThreadAllocatedBytes(self) - before;
        // Some bytes are the measuring's own; an object in each round would be thousands.
        System.out.println("200 rounds of calls made " + made + " bytes");
        DUE.holds("200 rounds of calls made " + made + " bytes", made < 2000);
        DUE.holds("they were called", sum != 0);
    }
}
