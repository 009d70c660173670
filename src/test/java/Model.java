import java.math.BigInteger;
import java.util.ArrayList;
import java.util.HashMap;
import java.util.HashSet;
import java.util.List;
import java.util.Map;
import java.util.Set;
import java.util.TreeSet;
import java.util.function.IntPredicate;
import java.util.function.ToIntFunction;

/**
 * The document once more, written from its words in another manner than the program (sets, lists,
 * recursion, big numbers), so that a slip in one of the two shows when they are run side by side.
 */
final class Model {
    static final int BAD = -1;
    static final int STATE = -2;
    static final int FULL = -3;
    static final int NONE = -4;
    private static final List<String> KINDS = List.of("plain", "echo", "contrary", "jealous", "easy");

    /** All that an image holds; each row is an int[]: things {kind, first, second}. */
    private static final class House {
        List<int[]> things = new ArrayList<>();
        Set<Integer> so = new TreeSet<>();
        List<int[]> guests = new ArrayList<>();
        List<int[]> bans = new ArrayList<>();
        int year;

        House copy() {
            House h = new House();
            h.things = rows(things);
            h.so = new TreeSet<>(so);
            h.guests = rows(guests);
            h.bans = rows(bans);
            h.year = year;
            return h;
        }

        private static List<int[]> rows(List<int[]> of) {
            List<int[]> copies = new ArrayList<>();
            for (int[] row : of) {
                copies.add(row.clone());
            }
            return copies;
        }

        Set<Integer> after(Set<Integer> was) {
            Set<Integer> then = new TreeSet<>();
            for (int f = 0; f < things.size(); f++) {
                int[] t = things.get(f);
                boolean a = was.contains(t[1]);
                boolean b = was.contains(t[2]);
                boolean[] laws = {was.contains(f), a, !a, a && !b, a || b};
                if (laws[t[0]]) {
                    then.add(f);
                }
            }
            return then;
        }

        boolean allowed(Set<Integer> at) {
            return bans.stream().noneMatch(b -> at.contains(b[0]) && at.contains(b[1]));
        }

        boolean agrees(Set<Integer> at) {
            return after(at).equals(at);
        }

        List<Set<Integer>> all() {
            List<Set<Integer>> states = new ArrayList<>();
            for (int bits = 0; bits < Math.pow(2, things.size()); bits++) {
                states.add(set(bits));
            }
            return states;
        }

        List<Set<Integer>> settled() {
            return all().stream().filter(s -> agrees(s) && allowed(s)).toList();
        }
    }

    private static final class Refusal extends Exception {
        private static final long serialVersionUID = 1L;
        final int fault;
        final int place;

        Refusal(int fault, int place) {
            this.fault = fault;
            this.place = place;
        }
    }

    private House house = new House();
    private final Map<Integer, House> images = new HashMap<>();
    private final StringBuilder tape = new StringBuilder();
    private int fault;
    private int torn;
    private List<int[]> seen = new ArrayList<>();
    private final Object[] sheets = new Object[4];

    static int bits(Set<Integer> state) {
        return state.stream().mapToInt(f -> (int) Math.pow(2, f)).sum();
    }

    static Set<Integer> set(int bits) {
        Set<Integer> s = new TreeSet<>();
        for (int f = 0; f < 6; f++) {
            if (bits / (int) Math.pow(2, f) % 2 == 1) {
                s.add(f);
            }
        }
        return s;
    }

    private static Set<Integer> flip(Set<Integer> s, int f) {
        Set<Integer> t = new TreeSet<>(s);
        if (!t.remove(f)) {
            t.add(f);
        }
        return t;
    }

    private static boolean in(int v, int low, int high) {
        return low <= v && v <= high;
    }

    private boolean isThing(int f) {
        return in(f, 0, house.things.size() - 1);
    }

    int feed(int c) {
        if (!in(c, 0, 127)) {
            return BAD;
        }
        if (tape.length() == 160) {
            return FULL;
        }
        tape.append((char) c);
        return tape.length();
    }

    int end(int n) {
        if (!in(n, 0, tape.length())) {
            return BAD;
        }
        int had = tape.length();
        tape.setLength(n);
        return had;
    }

    /** One token behind a place: {kind letter, from, to}; 'e' the end. */
    private static int[] token(String t, int from) throws Refusal {
        int i = from;
        while (i < t.length() && t.charAt(i) == ' ') {
            i++;
        }
        if (i == t.length()) {
            return new int[] {'e', i, i};
        }
        String rest = t.substring(i);
        String name = rest.replaceFirst("(?s)[^a-z].*", "");
        String number = rest.replaceFirst("(?s)[^0-9].*", "");
        if (!name.isEmpty()) {
            return new int[] {'n', i, i + name.length()};
        }
        if (number.length() == 1 || number.length() == 2) {
            return new int[] {'0', i, i + number.length()};
        }
        if (rest.startsWith(";")) {
            return new int[] {';', i, i + 1};
        }
        throw new Refusal(1, i);
    }

    private static int numberAt(String t, int[] tok, int most) throws Refusal {
        if (tok[0] != '0') {
            throw new Refusal(2, tok[1]);
        }
        int v = Integer.parseInt(t.substring(tok[1], tok[2]));
        if (v > most) {
            throw new Refusal(3, tok[1]);
        }
        return v;
    }

    private static int parse(String t, House h) throws Refusal {
        int lines = 0;
        int at = 0;
        Set<Integer> named = new TreeSet<>();
        while (true) {
            int[] tok = token(t, at);
            if (tok[0] == 'e') {
                break;
            }
            String word = tok[0] == 'n' ? t.substring(tok[1], tok[2]) : "?";
            int kind = KINDS.indexOf(word);
            if (kind < 0 && !List.of("so", "guest", "ban").contains(word)) {
                throw new Refusal(2, tok[1]);
            }
            if (kind >= 0 && h.things.size() == 6 || word.equals("guest") && h.guests.size() == 4
                    || word.equals("ban") && h.bans.size() == 4) {
                throw new Refusal(5, tok[1]);
            }
            at = tok[2];
            int wanted = kind >= 0 ? new int[] {0, 1, 1, 2, 2}[kind] : word.equals("so") ? 1 : 2;
            int[] v = new int[wanted];
            for (int i = 0; i < wanted; i++) {
                tok = token(t, at);
                v[i] = numberAt(t, tok, word.equals("guest") && i == 1 ? 9 : 5);
                if (!(word.equals("guest") && i == 1)) {
                    named.add(v[i]);
                }
                if (word.equals("ban") && i == 1 && v[0] == v[1]) {
                    throw new Refusal(3, tok[1]);
                }
                if (word.equals("so") && !h.so.add(v[0])) {
                    throw new Refusal(4, tok[1]);
                }
                at = tok[2];
            }
            tok = token(t, at);
            if (tok[0] != ';') {
                throw new Refusal(2, tok[1]);
            }
            at = tok[2];
            lines++;
            if (kind >= 0) {
                int self = h.things.size();
                h.things.add(new int[] {kind, wanted > 0 ? v[0] : self, wanted > 1 ? v[1] : self});
            } else if (word.equals("guest")) {
                h.guests.add(v);
            } else if (word.equals("ban")) {
                h.bans.add(v);
            }
        }
        for (int f : named) {
            if (f >= h.things.size()) {
                throw new Refusal(6, t.length());
            }
        }
        return lines;
    }

    int text() {
        String t = tape.toString();
        tape.setLength(0);
        House told = new House();
        try {
            int lines = parse(t, told);
            house = told;
            seen = new ArrayList<>();
            images.clear();
            fault = 0;
            return lines;
        } catch (Refusal r) {
            fault = r.fault;
            return -10 - r.place;
        }
    }

    int fault() {
        return fault;
    }

    int rule(int what) {
        int[] all = {house.things.size(), house.guests.size(), house.bans.size(), house.year,
            bits(house.so), house.allowed(house.so) ? 1 : 0, house.agrees(house.so) ? 1 : 0};
        return pick(all, what);
    }

    private static int pick(int[] all, int what) {
        return in(what, 0, all.length - 1) ? all[what] : BAD;
    }

    int thing(int f, int what) {
        if (!isThing(f)) {
            return BAD;
        }
        int[] t = house.things.get(f);
        return pick(new int[] {t[0], t[1], t[2], house.so.contains(f) ? 1 : 0,
            house.after(house.so).contains(f) ? 1 : 0}, what);
    }

    int guest(int g, int what) {
        return in(g, 0, house.guests.size() - 1) ? pick(house.guests.get(g), what) : BAD;
    }

    int ban(int b, int what) {
        if (!in(b, 0, house.bans.size() - 1)) {
            return BAD;
        }
        int[] p = house.bans.get(b);
        return pick(new int[] {p[0], p[1],
            house.so.contains(p[0]) && house.so.contains(p[1]) ? 1 : 0}, what);
    }

    int alter(int f, int what, int v) {
        if (!isThing(f) || !in(what, 0, 3)) {
            return BAD;
        }
        int most = new int[] {4, house.things.size() - 1, house.things.size() - 1, 1}[what];
        if (!in(v, 0, most)) {
            return BAD;
        }
        int was = thing(f, what);
        if (what < 3) {
            house.things.get(f)[what] = v;
        } else if (v == 1) {
            house.so.add(f);
        } else {
            house.so.remove(f);
        }
        return was;
    }

    int hire(int g, int what, int v) {
        if (!in(g, 0, house.guests.size() - 1) || !in(what, 0, 1)
                || !in(v, 0, what == 0 ? house.things.size() - 1 : 9)) {
            return BAD;
        }
        int was = house.guests.get(g)[what];
        house.guests.get(g)[what] = v;
        return was;
    }

    int forbid(int f, int g) {
        if (!isThing(f) || !isThing(g) || f == g) {
            return BAD;
        }
        if (house.bans.size() == 4) {
            return FULL;
        }
        house.bans.add(new int[] {f, g});
        return house.bans.size();
    }

    int lift(int b) {
        if (!in(b, 0, house.bans.size() - 1)) {
            return BAD;
        }
        house.bans.remove(b);
        return house.bans.size();
    }

    int undo(int g) {
        if (!in(g, 0, house.guests.size() - 1)) {
            return BAD;
        }
        Set<Integer> then = flip(house.so, house.guests.get(g)[0]);
        if (!house.allowed(then)) {
            return STATE;
        }
        house.so = then;
        return bits(then);
    }

    int go(int n) {
        int then = ahead(n);
        if (then == BAD) {
            return BAD;
        }
        if (house.year + n >= 1000) {
            return FULL;
        }
        house.year += n;
        house.so = set(then);
        return then;
    }

    int ahead(int n) {
        if (!in(n, 0, 99)) {
            return BAD;
        }
        return bits(years(house.so, n));
    }

    private Set<Integer> years(Set<Integer> from, int n) {
        return n == 0 ? from : years(house.after(from), n - 1);
    }

    private boolean isState(int state) {
        return in(state, 0, (int) Math.pow(2, house.things.size()) - 1);
    }

    int next(int state) {
        return isState(state) ? bits(house.after(set(state))) : BAD;
    }

    int ring(int what) {
        List<Set<Integer>> passed = new ArrayList<>();
        Set<Integer> at = house.so;
        while (!passed.contains(at)) {
            passed.add(at);
            at = house.after(at);
        }
        int tail = passed.indexOf(at);
        List<Set<Integer>> loop = passed.subList(tail, passed.size());
        return pick(new int[] {tail, loop.size(), bits(inAll(loop)), bits(inSome(loop))}, what);
    }

    private static Set<Integer> inAll(List<Set<Integer>> states) {
        Set<Integer> all = new TreeSet<>(states.get(0));
        states.forEach(all::retainAll);
        return all;
    }

    private static Set<Integer> inSome(List<Set<Integer>> states) {
        Set<Integer> some = new TreeSet<>();
        states.forEach(some::addAll);
        return some;
    }

    int rings(int what) {
        Set<Set<Integer>> loops = new HashSet<>();
        for (Set<Integer> s : house.all()) {
            // Behind so many years every state is in a ring.
            Set<Integer> at = years(s, 64);
            Set<Integer> loop = new TreeSet<>();
            while (loop.add(bits(at))) {
                at = house.after(at);
            }
            loops.add(loop);
        }
        int shortest = loops.stream().mapToInt(Set::size).min().orElseThrow();
        int longest = loops.stream().mapToInt(Set::size).max().orElseThrow();
        int least = loops.stream().filter(l -> l.size() == shortest)
            .mapToInt(l -> l.iterator().next()).min().orElseThrow();
        return pick(new int[] {loops.size(), shortest, least, longest}, what);
    }

    private static int told(List<Set<Integer>> states, int what) {
        if (!in(what, 0, 3)) {
            return BAD;
        }
        if (what > 0 && states.isEmpty()) {
            return NONE;
        }
        if (what == 0) {
            return states.size();
        }
        if (what == 1) {
            return states.stream().mapToInt(Model::bits).min().orElseThrow();
        }
        return bits(what == 2 ? inAll(states) : inSome(states));
    }

    int agree(int what) {
        return told(house.settled(), what);
    }

    int before(int state, int what) {
        if (!isState(state) || !in(what, 0, 1)) {
            return BAD;
        }
        return told(house.all().stream().filter(s -> bits(house.after(s)) == state).toList(), what);
    }

    int gardens() {
        Set<Integer> none = new HashSet<>();
        house.all().forEach(s -> none.add(bits(s)));
        house.all().forEach(s -> none.remove(bits(house.after(s))));
        return none.size();
    }

    int clash() {
        for (int n = 0; n <= 99; n++) {
            if (!house.allowed(years(house.so, n))) {
                return n;
            }
        }
        return NONE;
    }

    /** All clean ways of n years in their order: {end state, price, guests ...}. */
    private void ways(Set<Integer> at, int n, int price, List<Integer> row, List<int[]> into) {
        if (n == 0) {
            int[] found = new int[2 + row.size()];
            found[0] = bits(at);
            found[1] = price;
            for (int i = 0; i < row.size(); i++) {
                found[2 + i] = row.get(i);
            }
            into.add(found);
            return;
        }
        for (int g = -1; g < house.guests.size(); g++) {
            Set<Integer> undone = g < 0 ? at : flip(at, house.guests.get(g)[0]);
            Set<Integer> then = house.after(undone);
            if ((g < 0 || house.allowed(undone)) && house.allowed(then)) {
                List<Integer> longer = new ArrayList<>(row);
                longer.add(g);
                ways(then, n - 1, price + (g < 0 ? 0 : house.guests.get(g)[1]), longer, into);
            }
        }
    }

    private int[] best(int n, IntPredicate goal) {
        List<int[]> all = new ArrayList<>();
        ways(house.so, n, 0, List.of(), all);
        int[] best = null;
        for (int[] w : all) {
            if (goal.test(w[0]) && (best == null || w[1] < best[1])) {
                best = w;
            }
        }
        return best;
    }

    private static int guestOf(int[] way, int i) {
        return way == null || i >= way.length - 2 || way[2 + i] < 0 ? NONE : way[2 + i];
    }

    int way(int f, int v, int what) {
        if (!isThing(f) || !in(v, 0, 1) || !in(what, 0, 1) && !in(what, 10, 13)) {
            return BAD;
        }
        int[] best = null;
        for (int n = 0; n <= 4 && best == null; n++) {
            best = best(n, s -> set(s).contains(f) == (v == 1));
        }
        if (what >= 10) {
            return guestOf(best, what - 10);
        }
        return best == null ? NONE : what == 0 ? best.length - 2 : best[1];
    }

    int peace(int n, int what) {
        if (!in(n, 0, 4) || what != 0 && !in(what, 10, 13)) {
            return BAD;
        }
        int[] best = best(n, s -> house.agrees(set(s)));
        if (what >= 10) {
            return guestOf(best, what - 10);
        }
        return best == null ? NONE : best[1];
    }

    /** Of all places 10 a + b the best by a measure, {place, measure}; a measure below 0 is out. */
    private static int[] bestPlace(int a, int b, ToIntFunction<int[]> measure, boolean most) {
        int[] best = null;
        for (int i = 0; i < a; i++) {
            for (int j = 0; j < b; j++) {
                int m = measure.applyAsInt(new int[] {i, j});
                if (m >= 0 && (best == null || (most ? m > best[1] : m < best[1]))) {
                    best = new int[] {10 * i + j, m};
                }
            }
        }
        return best;
    }

    private static int placed(int[] best, int what) {
        return !in(what, 0, 1) ? BAD : best == null ? NONE : best[what];
    }

    int amend(int what) {
        int now = house.settled().size();
        int n = house.things.size();
        return placed(bestPlace(n, n, p -> {
            House h = house.copy();
            h.things.get(p[0])[1] = p[1];
            int then = h.settled().size();
            return then > now ? then : -1;
        }, true), what);
    }

    int strict(int what) {
        int now = house.settled().size();
        int n = house.things.size();
        return placed(bestPlace(n, n, p -> {
            House h = house.copy();
            h.bans.add(p);
            int then = h.settled().size();
            return p[0] < p[1] && then >= 1 && then < now ? then : -1;
        }, false), what);
    }

    private long slips(int v, int what, ToIntFunction<Set<Integer>> worth) {
        if (!in(v, 0, 10) || !in(what, 0, 1)) {
            return BAD;
        }
        BigInteger top = BigInteger.ZERO;
        Set<Integer> straight = house.after(house.so);
        for (Set<Integer> slip : house.all()) {
            BigInteger weight = BigInteger.valueOf(worth.applyAsInt(slipped(straight, slip)));
            for (int f = 0; f < house.things.size(); f++) {
                weight = weight.multiply(BigInteger.valueOf(slip.contains(f) ? v : 10 - v));
            }
            top = top.add(weight);
        }
        BigInteger whole = BigInteger.TEN.pow(house.things.size());
        BigInteger g = top.gcd(whole);
        return (what == 0 ? top : whole).divide(g).longValueExact();
    }

    private static Set<Integer> slipped(Set<Integer> from, Set<Integer> slip) {
        Set<Integer> then = from;
        for (int f : slip) {
            then = flip(then, f);
        }
        return then;
    }

    long luck(int v, int what) {
        return slips(v, what, s -> house.allowed(s) ? 1 : 0);
    }

    long calm(int v, int what) {
        return slips(v, what, s -> house.agrees(s) ? 1 : 0);
    }

    long mean(int v, int what) {
        return slips(v, what, Set::size);
    }

    int see(int f, int n, boolean is) {
        if (!isThing(f) || !in(n, 0, 9)) {
            return BAD;
        }
        if (seen.size() == 6) {
            return FULL;
        }
        seen.add(new int[] {f, n, is ? 1 : 0});
        return seen.size();
    }

    int forget(int n) {
        if (!in(n, 0, seen.size())) {
            return BAD;
        }
        int were = seen.size();
        seen = new ArrayList<>(seen.subList(0, n));
        return were;
    }

    private List<Set<Integer>> fitting() {
        return house.all().stream().filter(s -> seen.stream()
            .allMatch(e -> years(s, e[1]).contains(e[0]) == (e[2] == 1))).toList();
    }

    int fits(int what) {
        return told(fitting(), what);
    }

    int look(int what) {
        List<Set<Integer>> now = fitting();
        return placed(bestPlace(10, house.things.size(), p -> {
            int so = (int) now.stream().filter(s -> years(s, p[0]).contains(p[1])).count();
            int worst = Math.max(so, now.size() - so);
            return worst < now.size() ? worst : -1;
        }, false), what);
    }

    int drift(int seed, int n, int what) {
        if (!in(n, 1, 60) || !in(what, 0, 1)) {
            return BAD;
        }
        if (house.things.isEmpty()) {
            return STATE;
        }
        BigInteger s = BigInteger.valueOf(seed);
        Set<Integer> at = house.so;
        int allowed = 0;
        for (int i = 0; i < n; i++) {
            s = s.multiply(BigInteger.valueOf(1103515245)).add(BigInteger.valueOf(12345));
            int drawn = s.shiftRight(16).mod(BigInteger.ONE.shiftLeft(15)).intValue();
            at = house.after(flip(at, drawn % house.things.size()));
            allowed += house.allowed(at) ? 1 : 0;
        }
        return what == 0 ? allowed : bits(at);
    }

    int keep(int k) {
        if (!in(k, 0, 1)) {
            return BAD;
        }
        return images.put(k, house.copy()) == null ? 0 : 1;
    }

    int back(int k) {
        if (!in(k, 0, 1)) {
            return BAD;
        }
        if (!images.containsKey(k)) {
            return STATE;
        }
        house = images.get(k).copy();
        return house.year;
    }

    int sheet(int k, int lane, int n) {
        if (!in(k, 0, 3) || !in(lane, 0, 2) || n > 40) {
            return BAD;
        }
        try {
            sheets[k] = lane == 0 ? new byte[n] : lane == 1 ? new short[n] : new int[n];
            return 1;
        } catch (NegativeArraySizeException e) {
            return -14;
        }
    }

    int lay(int k, int i, int v) {
        if (!in(k, 0, 3)) {
            return BAD;
        }
        try {
            if (sheets[k] instanceof byte[] b) {
                b[i] = (byte) v;
            } else if (sheets[k] instanceof short[] s) {
                s[i] = (short) v;
            } else {
                ((int[]) sheets[k])[i] = v;
            }
            return 1;
        } catch (NullPointerException e) {
            return -11;
        } catch (ArrayIndexOutOfBoundsException e) {
            return -12;
        }
    }

    /** The machine itself finds the faults here; the program has to find the same without it. */
    private static int cell(Object sheet, int lane, int i) {
        return lane == 0 ? ((byte[]) sheet)[i] : lane == 1 ? ((short[]) sheet)[i] : ((int[]) sheet)[i];
    }

    int read(int k, int lane, int f, int n) {
        if (!in(k, 0, 3) || !in(lane, 0, 2) || !in(n, 0, 20)) {
            return BAD;
        }
        House was = house.copy();
        int i = 0;
        int found = 0;
        try {
            for (; i < n; i++) {
                int g = cell(sheets[k], lane, f + i);
                if (undo(g) < 0 || go(1) < 0) {
                    house = was;
                    return -20 - i;
                }
            }
        } catch (NullPointerException e) {
            found = 1;
        } catch (ArrayIndexOutOfBoundsException e) {
            found = 2;
        } catch (ClassCastException e) {
            found = 3;
        }
        torn = found;
        return i;
    }

    int torn() {
        return torn;
    }

    int count(int what) {
        int cells = sheets[0] == null ? NONE : java.lang.reflect.Array.getLength(sheets[0]);
        int prices = house.guests.stream().mapToInt(g -> g[1]).sum();
        return pick(new int[] {seen.size(), images.size(), tape.length(), cells, house.so.size(), prices},
            what);
    }
}
