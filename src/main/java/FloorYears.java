/**
 * A floor that was let last year: what is SO follows by laws from what was SO the year before.
 *
 * <p>Words in capitals are the terms of the document. Everything that a call needs is made once, in
 * the constructor, and used again: a run of calls makes no further objects.
 */
public final class FloorYears {
    public static final int BAD = -1, STATE = -2, FULL = -3, NONE = -4;

    private static final int MOST_THINGS = 6;
    private static final int MOST_STATES = 64;
    private static final int MOST_GUESTS = 4;
    private static final int MOST_BANS = 4;
    private static final int MOST_PRICE = 9;
    private static final int MOST_BYTES = 160;
    private static final int MOST_YEARS = 99;
    private static final int LAST_YEAR = 999;
    private static final int MOST_SEEN = 6;
    private static final int MOST_SEEN_YEARS = 9;
    private static final int MOST_WAY_YEARS = 4;
    private static final int MOST_DRIFT_YEARS = 60;
    private static final int IMAGES = 2;
    private static final int SHEETS = 4;
    private static final int LANES = 3;
    private static final int MOST_CELLS = 40;
    private static final int MOST_READ = 20;
    private static final int TEN = 10;

    private static final int PLAIN = 0;
    private static final int ECHO = 1;
    private static final int CONTRARY = 2;
    private static final int JEALOUS = 3;
    private static final int EASY = 4;

    /** What follows the KINDS in the numbering of the words that begin a line. */
    private static final int WORD_SO = 5;
    private static final int WORD_GUEST = 6;
    private static final int WORD_BAN = 7;
    private static final int NO_WORD = -1;

    private static final int TOKEN_NONE = 0;
    private static final int TOKEN_NAME = 1;
    private static final int TOKEN_NUMBER = 2;
    private static final int TOKEN_STOP = 3;
    private static final int TOKEN_END = 4;

    private static final int FAULT_TOKEN = 1;
    private static final int FAULT_ORDER = 2;
    private static final int FAULT_BOUNDS = 3;
    private static final int FAULT_TWICE = 4;
    private static final int FAULT_MANY = 5;
    private static final int FAULT_MISSING = 6;

    private static final int NO_FAULT = 0;
    private static final int FAULT_NULL = 1;
    private static final int FAULT_INDEX = 2;
    private static final int FAULT_CAST = 3;
    private static final int FAULT_SIZE = 4;

    private static final int NOBODY = -1;
    private static final int NO_LANE = -1;
    private static final int TO_AGREE = -1;

    private static final int WORTH_ALLOWED = 0;
    private static final int WORTH_AGREES = 1;
    private static final int WORTH_SO = 2;

    private final Floor now = new Floor();
    private final Floor trial = new Floor();
    private final Floor[] images = new Floor[IMAGES];
    private final boolean[] kept = new boolean[IMAGES];
    private final Reader reader = new Reader();
    private final Sights sights = new Sights();
    private final Search search = new Search();
    private final Tally tally = new Tally();
    private final Sheet[] sheets = new Sheet[SHEETS];
    private int tornFault;

    public FloorYears() {
        for (int k = 0; k < IMAGES; k++) {
            images[k] = new Floor();
        }
        for (int k = 0; k < SHEETS; k++) {
            sheets[k] = new Sheet();
        }
    }

    // ---- the text, what there is

    public int feed(int c) {
        if (c < 0 || c > 127) {
            return BAD;
        }
        if (reader.tape.length >= MOST_BYTES) {
            return FULL;
        }
        reader.tape.put(c);
        return reader.tape.length;
    }

    public int end(int n) {
        if (n < 0 || n > reader.tape.length) {
            return BAD;
        }
        int had = reader.tape.length;
        reader.tape.length = n;
        return had;
    }

    public int text() {
        reader.readAll();
        reader.tape.length = 0;
        if (reader.flaw != NO_FAULT) {
            return -10 - reader.flawPlace;
        }
        now.copyFrom(reader.told);
        sights.many = 0;
        for (int k = 0; k < IMAGES; k++) {
            kept[k] = false;
        }
        return reader.lines;
    }

    public int fault() {
        return reader.flaw;
    }

    public int rule(int what) {
        switch (what) {
            case 0:
                return now.things;
            case 1:
                return now.guests;
            case 2:
                return now.bans;
            case 3:
                return now.year;
            case 4:
                return now.state;
            case 5:
                return bit(now.allows(now.state));
            case 6:
                return bit(now.agrees(now.state));
            default:
                return BAD;
        }
    }

    public int thing(int f, int what) {
        if (!now.hasThing(f)) {
            return BAD;
        }
        switch (what) {
            case 0:
                return now.kind[f];
            case 1:
                return now.first[f];
            case 2:
                return now.second[f];
            case 3:
                return bit(isSo(now.state, f));
            case 4:
                return now.soAfter(f, now.state);
            default:
                return BAD;
        }
    }

    public int guest(int g, int what) {
        if (!now.hasGuest(g) || !isBit(what)) {
            return BAD;
        }
        return what == 0 ? now.undoes[g] : now.price[g];
    }

    public int ban(int b, int what) {
        if (!now.hasBan(b)) {
            return BAD;
        }
        switch (what) {
            case 0:
                return now.banOne[b];
            case 1:
                return now.banOther[b];
            case 2:
                return bit(now.breaks(b, now.state));
            default:
                return BAD;
        }
    }

    // ---- what is changed

    public int alter(int f, int what, int v) {
        int was = thing(f, what);
        if (was == BAD || what > 3 || !now.mayBecome(what, v)) {
            return BAD;
        }
        switch (what) {
            case 0:
                now.kind[f] = v;
                break;
            case 1:
                now.first[f] = v;
                break;
            case 2:
                now.second[f] = v;
                break;
            default:
                now.state = v == was ? now.state : undone(now.state, f);
                break;
        }
        return was;
    }

    public int hire(int g, int what, int v) {
        int was = guest(g, what);
        if (was == BAD) {
            return BAD;
        }
        if (what == 0) {
            if (!now.hasThing(v)) {
                return BAD;
            }
            now.undoes[g] = v;
            return was;
        }
        if (v < 0 || v > MOST_PRICE) {
            return BAD;
        }
        now.price[g] = v;
        return was;
    }

    public int forbid(int f, int g) {
        if (!now.hasThing(f) || !now.hasThing(g) || f == g) {
            return BAD;
        }
        if (now.bans >= MOST_BANS) {
            return FULL;
        }
        now.addBan(f, g);
        return now.bans;
    }

    public int lift(int b) {
        if (!now.hasBan(b)) {
            return BAD;
        }
        now.dropBan(b);
        return now.bans;
    }

    public int undo(int g) {
        if (!now.hasGuest(g)) {
            return BAD;
        }
        int then = undone(now.state, now.undoes[g]);
        if (!now.allows(then)) {
            return STATE;
        }
        now.state = then;
        return then;
    }

    // ---- years

    public int go(int n) {
        if (n < 0 || n > MOST_YEARS) {
            return BAD;
        }
        if (now.year + n > LAST_YEAR) {
            return FULL;
        }
        now.state = now.afterYears(now.state, n);
        now.year += n;
        return now.state;
    }

    public int ahead(int n) {
        if (n < 0 || n > MOST_YEARS) {
            return BAD;
        }
        return now.afterYears(now.state, n);
    }

    public int next(int state) {
        if (!now.hasState(state)) {
            return BAD;
        }
        return now.afterYear(state);
    }

    public int ring(int what) {
        if (what < 0 || what > 3) {
            return BAD;
        }
        int at = now.state;
        int behind = 0;
        while (behind < MOST_STATES && now.ringFrom(at) == 0) {
            at = now.afterYear(at);
            behind++;
        }
        if (what == 0) {
            return behind;
        }
        int length = now.ringFrom(at);
        tally.clear();
        for (int i = 0; i < length; i++) {
            tally.take(at);
            at = now.afterYear(at);
        }
        return what == 1 ? length : tally.answer(what);
    }

    public int rings(int what) {
        int many = 0;
        int shortest = 0;
        int least = 0;
        int longest = 0;
        for (int at = 0; at < now.states(); at++) {
            int length = now.ringLedBy(at);
            if (length > 0) {
                many++;
                longest = Math.max(longest, length);
                if (shortest == 0 || length < shortest) {
                    shortest = length;
                    least = at;
                }
            }
        }
        switch (what) {
            case 0:
                return many;
            case 1:
                return shortest;
            case 2:
                return least;
            case 3:
                return longest;
            default:
                return BAD;
        }
    }

    public int agree(int what) {
        if (what < 0 || what > 3) {
            return BAD;
        }
        tally.clear();
        for (int at = 0; at < now.states(); at++) {
            if (now.settles(at)) {
                tally.take(at);
            }
        }
        return tally.answer(what);
    }

    public int before(int state, int what) {
        if (!now.hasState(state) || !isBit(what)) {
            return BAD;
        }
        tally.clear();
        for (int at = 0; at < now.states(); at++) {
            if (now.afterYear(at) == state) {
                tally.take(at);
            }
        }
        return tally.answer(what);
    }

    public int gardens() {
        long come = 0;
        for (int at = 0; at < now.states(); at++) {
            come |= 1L << now.afterYear(at);
        }
        return now.states() - Long.bitCount(come);
    }

    public int clash() {
        int at = now.state;
        for (int behind = 0; behind <= MOST_YEARS; behind++) {
            if (!now.allows(at)) {
                return behind;
            }
            at = now.afterYear(at);
        }
        return NONE;
    }

    // ---- ways

    public int way(int f, int v, int what) {
        if (!now.hasThing(f) || !isBit(v) || !(isBit(what) || isWayYear(what))) {
            return BAD;
        }
        search.aimAt(f, v);
        for (int n = 0; n <= MOST_WAY_YEARS && !search.found; n++) {
            search.tryRows(now, n);
        }
        if (isWayYear(what)) {
            return search.guestAhead(what - 10);
        }
        if (!search.found) {
            return NONE;
        }
        return what == 0 ? search.bestYears : search.bestPrice;
    }

    public int peace(int n, int what) {
        if (n < 0 || n > MOST_WAY_YEARS || !(what == 0 || isWayYear(what))) {
            return BAD;
        }
        search.aimAt(TO_AGREE, 0);
        search.tryRows(now, n);
        if (isWayYear(what)) {
            return search.guestAhead(what - 10);
        }
        return search.found ? search.bestPrice : NONE;
    }

    public int amend(int what) {
        if (!isBit(what)) {
            return BAD;
        }
        int most = now.settled();
        int place = NONE;
        trial.copyFrom(now);
        for (int f = 0; f < now.things; f++) {
            for (int g = 0; g < now.things; g++) {
                trial.first[f] = g;
                int then = trial.settled();
                if (then > most) {
                    most = then;
                    place = 10 * f + g;
                }
            }
            trial.first[f] = now.first[f];
        }
        return what == 0 || place == NONE ? place : most;
    }

    public int strict(int what) {
        if (!isBit(what)) {
            return BAD;
        }
        int fewest = now.settled();
        int place = NONE;
        for (int f = 0; f < now.things; f++) {
            for (int g = f + 1; g < now.things; g++) {
                int then = now.settledWithout(f, g);
                if (then >= 1 && then < fewest) {
                    fewest = then;
                    place = 10 * f + g;
                }
            }
        }
        return what == 0 || place == NONE ? place : fewest;
    }

    // ---- slips

    public long luck(int v, int what) {
        return afterSlips(v, what, WORTH_ALLOWED);
    }

    public long calm(int v, int what) {
        return afterSlips(v, what, WORTH_AGREES);
    }

    public long mean(int v, int what) {
        return afterSlips(v, what, WORTH_SO);
    }

    // ---- what each saw

    public int see(int f, int n, boolean is) {
        if (!now.hasThing(f) || n < 0 || n > MOST_SEEN_YEARS) {
            return BAD;
        }
        if (sights.many >= MOST_SEEN) {
            return FULL;
        }
        sights.add(f, n, is);
        return sights.many;
    }

    public int forget(int n) {
        if (n < 0 || n > sights.many) {
            return BAD;
        }
        int were = sights.many;
        sights.many = n;
        return were;
    }

    public int fits(int what) {
        if (what < 0 || what > 3) {
            return BAD;
        }
        tally.clear();
        for (int at = 0; at < now.states(); at++) {
            if (sights.suit(now, at)) {
                tally.take(at);
            }
        }
        return tally.answer(what);
    }

    public int look(int what) {
        if (!isBit(what)) {
            return BAD;
        }
        sights.gather(now);
        int fewest = sights.left;
        int place = NONE;
        for (int n = 0; n <= MOST_SEEN_YEARS; n++) {
            for (int f = 0; f < now.things; f++) {
                int worst = sights.worstLeft(f);
                if (worst < fewest) {
                    fewest = worst;
                    place = 10 * n + f;
                }
            }
            sights.passYear(now);
        }
        return what == 0 || place == NONE ? place : fewest;
    }

    // ---- by a seed

    public int drift(int seed, int n, int what) {
        if (n < 1 || n > MOST_DRIFT_YEARS || !isBit(what)) {
            return BAD;
        }
        if (now.things == 0) {
            return STATE;
        }
        int at = now.state;
        int allowed = 0;
        int drawn = seed;
        for (int i = 0; i < n; i++) {
            drawn = drawn * 1103515245 + 12345;
            int f = (drawn >>> 16 & 0x7fff) % now.things;
            at = now.afterYear(undone(at, f));
            allowed += bit(now.allows(at));
        }
        return what == 0 ? allowed : at;
    }

    // ---- images, sheets

    public int keep(int k) {
        if (k < 0 || k >= IMAGES) {
            return BAD;
        }
        int was = bit(kept[k]);
        images[k].copyFrom(now);
        kept[k] = true;
        return was;
    }

    public int back(int k) {
        if (k < 0 || k >= IMAGES) {
            return BAD;
        }
        if (!kept[k]) {
            return STATE;
        }
        now.copyFrom(images[k]);
        return now.year;
    }

    public int sheet(int k, int lane, int n) {
        if (!isSheet(k) || !isLane(lane) || n > MOST_CELLS) {
            return BAD;
        }
        if (n < 0) {
            return -10 - FAULT_SIZE;
        }
        sheets[k].renew(lane, n);
        return 1;
    }

    public int lay(int k, int i, int v) {
        if (!isSheet(k)) {
            return BAD;
        }
        Sheet sheet = sheets[k];
        int found = sheet.refusal(sheet.lane, i);
        if (found != NO_FAULT) {
            return -10 - found;
        }
        sheet.put(i, v);
        return 1;
    }

    public int read(int k, int lane, int f, int n) {
        if (!isSheet(k) || !isLane(lane) || n < 0 || n > MOST_READ) {
            return BAD;
        }
        int stateWas = now.state;
        int yearWas = now.year;
        int found = NO_FAULT;
        int came = 0;
        while (came < n && found == NO_FAULT) {
            found = sheets[k].refusal(lane, f + came);
            if (found == NO_FAULT) {
                if (!visit(sheets[k].cells[f + came])) {
                    now.state = stateWas;
                    now.year = yearWas;
                    return -20 - came;
                }
                came++;
            }
        }
        tornFault = found;
        return came;
    }

    public int torn() {
        return tornFault;
    }

    public int count(int what) {
        switch (what) {
            case 0:
                return sights.many;
            case 1:
                return bit(kept[0]) + bit(kept[1]);
            case 2:
                return reader.tape.length;
            case 3:
                return sheets[0].lane == NO_LANE ? NONE : sheets[0].size;
            case 4:
                return Integer.bitCount(now.state);
            case 5:
                return now.allPrices();
            default:
                return BAD;
        }
    }

    // ---- helpers

    /** A GUEST and the YEAR behind him; false if either is refused, whatever has changed by then. */
    private boolean visit(int g) {
        return undo(g) >= 0 && go(1) >= 0;
    }

    private long afterSlips(int v, int what, int worth) {
        if (v < 0 || v > TEN || !isBit(what)) {
            return BAD;
        }
        int straight = now.afterYear(now.state);
        long top = 0;
        for (int slips = 0; slips < now.states(); slips++) {
            int slipped = Integer.bitCount(slips);
            long weight = power(v, slipped) * power(TEN - v, now.things - slipped);
            top += weight * now.worth(straight ^ slips, worth);
        }
        long whole = power(TEN, now.things);
        long shared = commonDivisor(top, whole);
        if (shared < 1) {
            return BAD;
        }
        return (what == 0 ? top : whole) / shared;
    }

    private static long power(int base, int times) {
        long product = 1;
        for (int i = 0; i < times; i++) {
            product *= base;
        }
        return product;
    }

    private static long commonDivisor(long a, long b) {
        long greater = a;
        long lesser = b;
        for (int i = 0; i < 100 && lesser != 0; i++) {
            long rest = greater % lesser;
            greater = lesser;
            lesser = rest;
        }
        return greater;
    }

    private static int bit(boolean is) {
        return is ? 1 : 0;
    }

    private static boolean isBit(int v) {
        return v == 0 || v == 1;
    }

    private static boolean isSo(int state, int f) {
        return (state >> f & 1) == 1;
    }

    private static int undone(int state, int f) {
        return state ^ 1 << f;
    }

    private static boolean isWayYear(int what) {
        return what >= 10 && what < 10 + MOST_WAY_YEARS;
    }

    private static boolean isSheet(int k) {
        return k >= 0 && k < SHEETS;
    }

    private static boolean isLane(int lane) {
        return lane >= 0 && lane < LANES;
    }

    /** All that an IMAGE holds: THINGS and their laws, GUESTS, BANS, YEAR. */
    private static final class Floor {
        int things;
        final int[] kind = new int[MOST_THINGS];
        final int[] first = new int[MOST_THINGS];
        final int[] second = new int[MOST_THINGS];
        int state;
        int guests;
        final int[] undoes = new int[MOST_GUESTS];
        final int[] price = new int[MOST_GUESTS];
        int bans;
        final int[] banOne = new int[MOST_BANS];
        final int[] banOther = new int[MOST_BANS];
        int year;

        void clear() {
            things = 0;
            state = 0;
            guests = 0;
            bans = 0;
            year = 0;
        }

        void copyFrom(Floor other) {
            things = other.things;
            System.arraycopy(other.kind, 0, kind, 0, MOST_THINGS);
            System.arraycopy(other.first, 0, first, 0, MOST_THINGS);
            System.arraycopy(other.second, 0, second, 0, MOST_THINGS);
            state = other.state;
            guests = other.guests;
            System.arraycopy(other.undoes, 0, undoes, 0, MOST_GUESTS);
            System.arraycopy(other.price, 0, price, 0, MOST_GUESTS);
            bans = other.bans;
            System.arraycopy(other.banOne, 0, banOne, 0, MOST_BANS);
            System.arraycopy(other.banOther, 0, banOther, 0, MOST_BANS);
            year = other.year;
        }

        boolean hasThing(int f) {
            return f >= 0 && f < things;
        }

        boolean hasGuest(int g) {
            return g >= 0 && g < guests;
        }

        boolean hasBan(int b) {
            return b >= 0 && b < bans;
        }

        /** Whether all the THINGS that are named are there. */
        boolean isWhole() {
            boolean whole = state < states();
            for (int f = 0; f < things; f++) {
                whole &= hasThing(first[f]) && hasThing(second[f]);
            }
            for (int g = 0; g < guests; g++) {
                whole &= hasThing(undoes[g]);
            }
            for (int b = 0; b < bans; b++) {
                whole &= hasThing(banOne[b]) && hasThing(banOther[b]);
            }
            return whole;
        }

        boolean hasState(int at) {
            return at >= 0 && at < states();
        }

        int states() {
            return 1 << things;
        }

        /** Whether v can be KIND, FIRST, SECOND, SO (what 0 to 3) of a THING. */
        boolean mayBecome(int what, int v) {
            if (what == 0) {
                return v >= PLAIN && v <= EASY;
            }
            return what == 3 ? isBit(v) : hasThing(v);
        }

        void addThing(int ofKind, int ofFirst, int ofSecond) {
            if (things < MOST_THINGS) {
                kind[things] = ofKind;
                first[things] = ofFirst;
                second[things] = ofSecond;
                things++;
            }
        }

        void addGuest(int f, int atPrice) {
            if (guests < MOST_GUESTS) {
                undoes[guests] = f;
                price[guests] = atPrice;
                guests++;
            }
        }

        void addBan(int f, int g) {
            if (bans < MOST_BANS) {
                banOne[bans] = f;
                banOther[bans] = g;
                bans++;
            }
        }

        void dropBan(int b) {
            for (int i = b; i + 1 < bans; i++) {
                banOne[i] = banOne[i + 1];
                banOther[i] = banOther[i + 1];
            }
            bans--;
        }

        int allPrices() {
            int sum = 0;
            for (int g = 0; g < guests; g++) {
                sum += price[g];
            }
            return sum;
        }

        /** Whether a THING is SO the year behind a STATE (1, 0), by its law. */
        int soAfter(int f, int at) {
            int firstWas = at >> first[f] & 1;
            int secondWas = at >> second[f] & 1;
            switch (kind[f]) {
                case ECHO:
                    return firstWas;
                case CONTRARY:
                    return 1 - firstWas;
                case JEALOUS:
                    return firstWas & (1 - secondWas);
                case EASY:
                    return firstWas | secondWas;
                default:
                    return at >> f & 1;
            }
        }

        int afterYear(int at) {
            int then = 0;
            for (int f = 0; f < things; f++) {
                then |= soAfter(f, at) << f;
            }
            return then;
        }

        int afterYears(int at, int n) {
            int then = at;
            for (int i = 0; i < n; i++) {
                then = afterYear(then);
            }
            return then;
        }

        boolean breaks(int b, int at) {
            return isSo(at, banOne[b]) && isSo(at, banOther[b]);
        }

        boolean allows(int at) {
            for (int b = 0; b < bans; b++) {
                if (breaks(b, at)) {
                    return false;
                }
            }
            return true;
        }

        boolean agrees(int at) {
            return afterYear(at) == at;
        }

        boolean settles(int at) {
            return agrees(at) && allows(at);
        }

        int settled() {
            int many = 0;
            for (int at = 0; at < states(); at++) {
                many += bit(settles(at));
            }
            return many;
        }

        /** How many would AGREE (ALLOWED), were f and g a BAN more. */
        int settledWithout(int f, int g) {
            int many = 0;
            for (int at = 0; at < states(); at++) {
                many += bit(settles(at) && !(isSo(at, f) && isSo(at, g)));
            }
            return many;
        }

        /** Of how many STATES the RING is that a STATE belongs to; 0: to none. */
        int ringFrom(int start) {
            int at = start;
            for (int n = 1; n <= states(); n++) {
                at = afterYear(at);
                if (at == start) {
                    return n;
                }
            }
            return 0;
        }

        /** Likewise, but 0 also unless it is the least of its RING, so that each RING counts once. */
        int ringLedBy(int start) {
            int at = start;
            for (int n = 1; n <= states(); n++) {
                at = afterYear(at);
                if (at == start) {
                    return n;
                }
                if (at < start) {
                    return 0;
                }
            }
            return 0;
        }

        int worth(int at, int worth) {
            switch (worth) {
                case WORTH_ALLOWED:
                    return bit(allows(at));
                case WORTH_AGREES:
                    return bit(agrees(at));
                default:
                    return Integer.bitCount(at);
            }
        }
    }

    /** THE TAPE and the TOKEN that was read of it last. */
    private static final class Tape {
        final byte[] bytes = new byte[MOST_BYTES];
        int length;
        int place;
        int token;
        int tokenPlace;

        void put(int c) {
            if (length < MOST_BYTES) {
                bytes[length] = (byte) c;
                length++;
            }
        }

        void rewind() {
            place = 0;
        }

        void readToken() {
            while (place < length && bytes[place] == ' ') {
                place++;
            }
            tokenPlace = place;
            token = sortAt(place);
            if (token == TOKEN_NAME || token == TOKEN_NUMBER) {
                while (place < length && sortAt(place) == token) {
                    place++;
                }
            } else if (place < length) {
                place++;
            }
            if (token == TOKEN_NUMBER && place - tokenPlace > 2) {
                token = TOKEN_NONE;
            }
        }

        /** The sort of TOKEN that a byte begins and goes on with. */
        private int sortAt(int at) {
            if (at < 0 || at >= length) {
                return TOKEN_END;
            }
            int c = bytes[at];
            if (c >= 'a' && c <= 'z') {
                return TOKEN_NAME;
            }
            if (c >= '0' && c <= '9') {
                return TOKEN_NUMBER;
            }
            return c == ';' ? TOKEN_STOP : TOKEN_NONE;
        }

        int tokenValue() {
            int value = 0;
            for (int i = tokenPlace; i < place && i < length; i++) {
                value = value * 10 + bytes[i] - '0';
            }
            return value;
        }

        boolean tokenIs(String word) {
            if (token != TOKEN_NAME || place - tokenPlace != word.length()) {
                return false;
            }
            for (int i = 0; i < word.length(); i++) {
                if (bytes[tokenPlace + i] != word.charAt(i)) {
                    return false;
                }
            }
            return true;
        }
    }

    /** Reads THE TAPE into a Floor of its own; behind the first FAULT nothing more is read. */
    private static final class Reader {
        final Tape tape = new Tape();
        final Floor told = new Floor();
        int flaw;
        int flawPlace;
        int lines;

        void readAll() {
            told.clear();
            tape.rewind();
            flaw = NO_FAULT;
            flawPlace = 0;
            lines = 0;
            // A line has two bytes at least, so the bound is never what ends this.
            while (lines < MOST_BYTES && readLine()) {
                lines++;
            }
            failIf(!told.isWhole(), FAULT_MISSING);
        }

        private boolean readLine() {
            takeToken();
            if (flaw != NO_FAULT || tape.token == TOKEN_END) {
                return false;
            }
            int word = wordRead();
            switch (word) {
                case NO_WORD:
                    failIf(true, FAULT_ORDER);
                    break;
                case WORD_SO:
                    readSo();
                    break;
                case WORD_GUEST:
                    readGuest();
                    break;
                case WORD_BAN:
                    readBan();
                    break;
                default:
                    readThing(word);
                    break;
            }
            return flaw == NO_FAULT;
        }

        private int wordRead() {
            if (tape.tokenIs("plain")) {
                return PLAIN;
            }
            if (tape.tokenIs("echo")) {
                return ECHO;
            }
            if (tape.tokenIs("contrary")) {
                return CONTRARY;
            }
            if (tape.tokenIs("jealous")) {
                return JEALOUS;
            }
            if (tape.tokenIs("easy")) {
                return EASY;
            }
            if (tape.tokenIs("so")) {
                return WORD_SO;
            }
            if (tape.tokenIs("guest")) {
                return WORD_GUEST;
            }
            return tape.tokenIs("ban") ? WORD_BAN : NO_WORD;
        }

        private void readThing(int kind) {
            int itself = told.things;
            failIf(itself >= MOST_THINGS, FAULT_MANY);
            int first = kind == PLAIN ? itself : takeNumber(MOST_THINGS - 1);
            int second = kind == JEALOUS || kind == EASY ? takeNumber(MOST_THINGS - 1) : itself;
            takeStop();
            told.addThing(kind, first, second);
        }

        private void readSo() {
            int f = takeNumber(MOST_THINGS - 1);
            failIf(isSo(told.state, f), FAULT_TWICE);
            takeStop();
            told.state |= 1 << f;
        }

        private void readGuest() {
            failIf(told.guests >= MOST_GUESTS, FAULT_MANY);
            int f = takeNumber(MOST_THINGS - 1);
            int price = takeNumber(MOST_PRICE);
            takeStop();
            told.addGuest(f, price);
        }

        private void readBan() {
            failIf(told.bans >= MOST_BANS, FAULT_MANY);
            int f = takeNumber(MOST_THINGS - 1);
            int g = takeNumber(MOST_THINGS - 1);
            failIf(f == g, FAULT_BOUNDS);
            takeStop();
            told.addBan(f, g);
        }

        /** The NUMBER that comes, 0 to most; 0 if a FAULT has been met, for what is told is lost. */
        private int takeNumber(int most) {
            takeToken();
            failIf(tape.token != TOKEN_NUMBER, FAULT_ORDER);
            if (flaw != NO_FAULT) {
                return 0;
            }
            int value = tape.tokenValue();
            failIf(value > most, FAULT_BOUNDS);
            return flaw == NO_FAULT ? value : 0;
        }

        private void takeStop() {
            takeToken();
            failIf(tape.token != TOKEN_STOP, FAULT_ORDER);
        }

        private void takeToken() {
            if (flaw == NO_FAULT) {
                tape.readToken();
                failIf(tape.token == TOKEN_NONE, FAULT_TOKEN);
            }
        }

        /** A FAULT at the TOKEN read last, unless one was met before (the end stands at the length). */
        private void failIf(boolean is, int number) {
            if (is && flaw == NO_FAULT) {
                flaw = number;
                flawPlace = tape.tokenPlace;
            }
        }
    }

    /** STATES taken one by one, told in one of the ways that several calls share. */
    private static final class Tally {
        int many;
        int least;
        int inAll;
        int inSome;

        void clear() {
            many = 0;
            least = 0;
            inAll = MOST_STATES - 1;
            inSome = 0;
        }

        void take(int at) {
            least = many == 0 ? at : Math.min(least, at);
            inAll &= at;
            inSome |= at;
            many++;
        }

        int answer(int what) {
            if (what == 0) {
                return many;
            }
            if (many == 0) {
                return NONE;
            }
            if (what == 1) {
                return least;
            }
            return what == 2 ? inAll : inSome;
        }
    }

    /** Tries WAYS row by row and holds the cheapest CLEAN one that came where it should. */
    private static final class Search {
        final int[] row = new int[MOST_WAY_YEARS];
        final int[] bestRow = new int[MOST_WAY_YEARS];
        int bestYears;
        int bestPrice;
        boolean found;
        int goalThing;
        int goalSo;
        int rowPrice;

        void aimAt(int f, int so) {
            goalThing = f;
            goalSo = so;
            found = false;
        }

        void tryRows(Floor floor, int years) {
            for (int y = 0; y < years; y++) {
                row[y] = NOBODY;
            }
            int rows = (int) power(floor.guests + 1, years);
            for (int i = 0; i < rows; i++) {
                if (succeeds(floor, years) && (!found || rowPrice < bestPrice)) {
                    holdRow(years);
                }
                turnRow(floor.guests, years);
            }
        }

        private boolean succeeds(Floor floor, int years) {
            int at = floor.state;
            rowPrice = 0;
            for (int y = 0; y < years; y++) {
                int g = row[y];
                if (floor.hasGuest(g)) {
                    at = undone(at, floor.undoes[g]);
                    rowPrice += floor.price[g];
                    if (!floor.allows(at)) {
                        return false;
                    }
                }
                at = floor.afterYear(at);
                if (!floor.allows(at)) {
                    return false;
                }
            }
            return goalThing == TO_AGREE ? floor.agrees(at) : bit(isSo(at, goalThing)) == goalSo;
        }

        private void holdRow(int years) {
            System.arraycopy(row, 0, bestRow, 0, years);
            bestYears = years;
            bestPrice = rowPrice;
            found = true;
        }

        /** To the row behind this one: the last YEAR turns first, like a counter's last figure. */
        private void turnRow(int guests, int years) {
            for (int y = years - 1; y >= 0; y--) {
                if (row[y] + 1 < guests) {
                    row[y]++;
                    return;
                }
                row[y] = NOBODY;
            }
        }

        int guestAhead(int year) {
            if (!found || year < 0 || year >= bestYears || bestRow[year] == NOBODY) {
                return NONE;
            }
            return bestRow[year];
        }
    }

    /** What is SEEN, and the STATES that FIT as the years pass over them. */
    private static final class Sights {
        int many;
        final int[] things = new int[MOST_SEEN];
        final int[] years = new int[MOST_SEEN];
        final boolean[] so = new boolean[MOST_SEEN];
        int left;
        final int[] later = new int[MOST_STATES];

        void add(int f, int n, boolean is) {
            if (many < MOST_SEEN) {
                things[many] = f;
                years[many] = n;
                so[many] = is;
                many++;
            }
        }

        boolean suit(Floor floor, int start) {
            int at = start;
            for (int n = 0; n <= MOST_SEEN_YEARS; n++) {
                if (!suitYear(n, at)) {
                    return false;
                }
                at = floor.afterYear(at);
            }
            return true;
        }

        private boolean suitYear(int n, int at) {
            for (int i = 0; i < many; i++) {
                if (years[i] == n && isSo(at, things[i]) != so[i]) {
                    return false;
                }
            }
            return true;
        }

        void gather(Floor floor) {
            left = 0;
            for (int at = 0; at < floor.states(); at++) {
                if (left < MOST_STATES && suit(floor, at)) {
                    later[left] = at;
                    left++;
                }
            }
        }

        int worstLeft(int f) {
            int ifSo = 0;
            for (int i = 0; i < left; i++) {
                ifSo += bit(isSo(later[i], f));
            }
            return Math.max(ifSo, left - ifSo);
        }

        void passYear(Floor floor) {
            for (int i = 0; i < left; i++) {
                later[i] = floor.afterYear(later[i]);
            }
        }
    }

    /** A SHEET; its lane is NO_LANE while it has nothing. */
    private static final class Sheet {
        int lane = NO_LANE;
        int size;
        final int[] cells = new int[MOST_CELLS];

        void renew(int newLane, int newSize) {
            lane = newLane;
            size = newSize;
            for (int i = 0; i < MOST_CELLS; i++) {
                cells[i] = 0;
            }
        }

        /** What the machine would find at CELL i of this SHEET taken as of a lane. */
        int refusal(int asLane, int i) {
            if (lane == NO_LANE) {
                return FAULT_NULL;
            }
            if (lane != asLane) {
                return FAULT_CAST;
            }
            return i < 0 || i >= size ? FAULT_INDEX : NO_FAULT;
        }

        void put(int i, int v) {
            if (i >= 0 && i < size) {
                cells[i] = lane == 0 ? (byte) v : lane == 1 ? (short) v : v;
            }
        }
    }
}
