/**
 * A town of places and stairs, and people who climb only by a stride that goes into the steps.
 * Every call answers a number; a call that is refused answers one of the constants and changes nothing.
 */
public final class FittingStrides {
    public static final int NONE = -1, UNKNOWN = -1000000001, OUTSIDE = -1000000002, NOT = -1000000003, FULL = -1000000004;

    private static final int MOST_BYTES = 500;
    private static final int MOST_PLACES = 8;
    private static final int MOST_STAIRS = 10;
    private static final int MOST_PARTS = 3;
    private static final int MOST_STEPS = 720;
    private static final int MOST_PERSONS = 8;
    private static final int MOST_STRIDE = 24;
    private static final int MOST_SEEN = 20;
    private static final int MOST_WRITTEN = 40;
    private static final int MOST_DAYS = 99;
    private static final int MOST_WISHED = 100000;
    private static final int MOST_IMAGES = 2;

    private static final int PLAIN = 0;
    private static final int OPEN = 1;
    private static final int LEAP = 2;

    private final Text text;
    private final Town now;
    private final State[] images;
    private final boolean[] kept;
    private final Sights sights;
    private final Book book;
    private int faultByte;

    public FittingStrides() {
        text = new Text();
        now = new Town();
        images = new State[MOST_IMAGES];
        for (int i = 0; i < MOST_IMAGES; i++) {
            images[i] = new State();
        }
        kept = new boolean[MOST_IMAGES];
        sights = new Sights();
        book = new Book();
        faultByte = NONE;
    }

    // ---- the town

    public int feed(int n, long bytes) {
        if (n < 1 || n > 8) {
            return OUTSIDE;
        }
        if (text.length + n > MOST_BYTES) {
            return FULL;
        }
        for (int i = n - 1; i >= 0; i--) {
            text.append((int) (bytes >>> 8 * i & 255));
        }
        return text.length;
    }

    public int town() {
        boolean right = text.read();
        text.length = 0;
        if (!right) {
            faultByte = text.faultAt;
            return -10 - text.faultKind;
        }
        faultByte = NONE;
        now.becomeTold(text.draft);
        for (int i = 0; i < MOST_IMAGES; i++) {
            kept[i] = false;
        }
        sights.count = 0;
        book.count = 0;
        return now.plan.places;
    }

    public int fault() {
        return faultByte;
    }

    public int told(int what) {
        switch (what) {
            case 0: return now.plan.places;
            case 1: return now.plan.stairs;
            case 2: return now.state.persons;
            case 3: return text.length;
            case 4: return now.state.law;
            case 5: return sights.count;
            case 6: return book.count;
            case 7: return now.allWorn();
            default: return OUTSIDE;
        }
    }

    public int stair(int r, int what) {
        Plan plan = now.plan;
        if (!plan.hasStair(r)) {
            return UNKNOWN;
        }
        switch (what) {
            case 0: return plan.kinds[r];
            case 1: return plan.lows[r];
            case 2: return plan.highs[r];
            case 3: return plan.parts[r];
            case 4:
            case 5:
            case 6: return plan.hasPart(r, what - 4) ? now.state.steps[MOST_PARTS * r + what - 4] : 0;
            case 7: return now.state.worn[r];
            case 8: return now.climbers(r, NONE, 0);
            default: return OUTSIDE;
        }
    }

    public int person(int p, int what) {
        State state = now.state;
        if (!state.hasPerson(p)) {
            return UNKNOWN;
        }
        switch (what) {
            case 0: return state.at[p];
            case 1: return state.firsts[p];
            case 2: return state.seconds[p];
            case 3: return now.reachOfPerson(p);
            default: return OUTSIDE;
        }
    }

    public int fit(int r, int stride) {
        if (!now.plan.hasStair(r)) {
            return UNKNOWN;
        }
        if (!isStride(stride)) {
            return OUTSIDE;
        }
        return now.allows(r, stride, NONE, 0) ? 1 : 0;
    }

    // ---- what is done

    public int go(int p, int r) {
        if (!now.state.hasPerson(p) || !now.plan.hasStair(r)) {
            return UNKNOWN;
        }
        return now.travel(p, r) ? now.state.at[p] : NOT;
    }

    public int build(int r, int part, int n) {
        if (!now.plan.hasPart(r, part)) {
            return UNKNOWN;
        }
        if (!areSteps(n)) {
            return OUTSIDE;
        }
        int was = now.state.steps[MOST_PARTS * r + part];
        now.state.steps[MOST_PARTS * r + part] = n;
        return was;
    }

    public int law(int v) {
        if (v != 0 && v != 1) {
            return OUTSIDE;
        }
        int was = now.state.law;
        now.state.law = v;
        return was;
    }

    public int drift(int n) {
        if (n < 1 || n > MOST_DAYS) {
            return OUTSIDE;
        }
        if (now.state.persons == 0 || now.plan.stairs == 0) {
            return NOT;
        }
        for (int day = 0; day < n; day++) {
            now.liveDay();
        }
        return now.state.persons;
    }

    // ---- who gets where

    public int reach(int place, int stride) {
        if (!now.plan.hasPlace(place)) {
            return UNKNOWN;
        }
        if (!isStride(stride)) {
            return OUTSIDE;
        }
        return now.reachFrom(place, stride, 0);
    }

    public int guests(int p) {
        State state = now.state;
        if (!state.hasPerson(p)) {
            return UNKNOWN;
        }
        int set = 0;
        for (int q = 0; q < state.persons; q++) {
            if (q != p && has(now.reachOfPerson(q), state.at[p])) {
                set |= 1 << q;
            }
        }
        return set;
    }

    public int wish(int in, int out) {
        State state = now.state;
        if (!state.hasPersons(in) || !state.hasPersons(out)) {
            return UNKNOWN;
        }
        long least = 1;
        for (int p = 0; p < state.persons; p++) {
            if (has(in, p)) {
                least = commonSteps(least, state.firsts[p]);
            }
        }
        if (least > MOST_WISHED) {
            return NONE;
        }
        // Every stair for all of "in" is a multiple of the least one, so who gets up that gets up all of them.
        for (int p = 0; p < state.persons; p++) {
            if (has(out, p) && (goesInto(state.firsts[p], least) || goesInto(state.seconds[p], least))) {
                return NONE;
            }
        }
        return (int) least;
    }

    public int pair(int p, int q, int what) {
        State state = now.state;
        if (!state.hasPerson(p) || !state.hasPerson(q) || p == q) {
            return UNKNOWN;
        }
        switch (what) {
            case 0: return now.reachOfPerson(p) & now.reachOfPerson(q);
            case 1: return (int) commonSteps(state.firsts[p], state.firsts[q]);
            default: return OUTSIDE;
        }
    }

    public int carried(int p, int place, int what) {
        if (!now.state.hasPerson(p) || !now.plan.hasPlace(place)) {
            return UNKNOWN;
        }
        if (what != 0 && what != 1) {
            return OUTSIDE;
        }
        int set = now.fewestCarriers(p, place);
        return set == NONE || what == 1 ? set : Integer.bitCount(set);
    }

    // ---- steps

    public int step(int r, int part, int by, int what) {
        if (!now.plan.hasPart(r, part)) {
            return UNKNOWN;
        }
        if (by != 1 && by != -1 || what != 0 && what != 1) {
            return OUTSIDE;
        }
        if (!areSteps(now.state.steps[MOST_PARTS * r + part] + by)) {
            return OUTSIDE;
        }
        int before = now.climbers(r, NONE, 0);
        int after = now.climbers(r, part, by);
        return Integer.bitCount(what == 0 ? after & ~before : before & ~after);
    }

    public int worst(int what) {
        if (what < 0 || what > 2) {
            return OUTSIDE;
        }
        int most = 0;
        int worstStair = NONE;
        int worstPart = NONE;
        for (int r = 0; r < now.plan.stairs; r++) {
            for (int part = 0; part < now.plan.parts[r]; part++) {
                int lost = now.shutOutByLess(r, part);
                if (lost > most) {
                    most = lost;
                    worstStair = r;
                    worstPart = part;
                }
            }
        }
        if (most == 0) {
            return NONE;
        }
        return what == 0 ? worstStair : what == 1 ? worstPart : most;
    }

    public int best(int place) {
        if (!now.plan.hasPlace(place)) {
            return UNKNOWN;
        }
        int bestStride = 1;
        int most = 0;
        for (int stride = 1; stride <= MOST_STRIDE; stride++) {
            int count = Integer.bitCount(now.reachFrom(place, stride, 0));
            if (count >= most) {
                most = count;
                bestStride = stride;
            }
        }
        return bestStride;
    }

    public int cover() {
        return now.fewestClimbers();
    }

    // ---- what was seen

    public int see(int begin, int place, boolean was) {
        if (!now.plan.hasPlace(begin) || !now.plan.hasPlace(place)) {
            return UNKNOWN;
        }
        if (sights.count >= MOST_SEEN) {
            return FULL;
        }
        sights.append(begin, place, was);
        return sights.count;
    }

    public int fits() {
        return sights.stridesAsSeen(now);
    }

    public int ask() {
        int strides = sights.stridesAsSeen(now);
        int all = Integer.bitCount(strides);
        int nearest = NONE;
        int leastGap = MOST_STRIDE + 1;
        for (int r = 0; r < now.plan.stairs; r++) {
            int fitting = Integer.bitCount(strides & now.stridesThatFit(r));
            int gap = Math.abs(all - 2 * fitting);
            if (fitting > 0 && fitting < all && gap < leastGap) {
                leastGap = gap;
                nearest = r;
            }
        }
        return nearest;
    }

    public int write(int p, int r) {
        if (!now.state.hasPerson(p) || !now.plan.hasStair(r)) {
            return UNKNOWN;
        }
        if (book.count >= MOST_WRITTEN) {
            return FULL;
        }
        book.append(p, r);
        return book.count;
    }

    public int tear() {
        int both = book.count + sights.count;
        book.count = 0;
        sights.count = 0;
        return both;
    }

    public int judge() {
        return book.firstWrong(now);
    }

    public int seed(int v) {
        if (v < 0) {
            return OUTSIDE;
        }
        int was = now.state.seed;
        now.state.seed = v;
        return was;
    }

    public int keep(int i) {
        if (!isImage(i)) {
            return UNKNOWN;
        }
        images[i].become(now.state);
        kept[i] = true;
        return 1;
    }

    public int goBack(int i) {
        if (!isImage(i)) {
            return UNKNOWN;
        }
        if (!kept[i]) {
            return NOT;
        }
        now.state.become(images[i]);
        return 1;
    }

    private static boolean isImage(int i) {
        return i >= 0 && i < MOST_IMAGES;
    }

    private static boolean isStride(int stride) {
        return stride >= 1 && stride <= MOST_STRIDE;
    }

    private static boolean areSteps(int n) {
        return n >= 1 && n <= MOST_STEPS;
    }

    private static boolean has(int set, int k) {
        return k >= 0 && k < 31 && (set >> k & 1) == 1;
    }

    /** A stride of 0 stands for none, and goes into nothing. */
    private static boolean goesInto(int stride, long steps) {
        return stride > 0 && steps % stride == 0;
    }

    /** The least number of steps that both go into. */
    private static long commonSteps(long n, int stride) {
        if (stride < 1) {
            return n;
        }
        // One of the first "stride" multiples of n is it.
        for (int times = 1; times <= stride; times++) {
            if (goesInto(stride, n * times)) {
                return n * times;
            }
        }
        return n * stride;
    }

    /** Of places and stairs, what stays as it was told until another text is read. */
    private static final class Plan {
        int places;
        int stairs;
        final int[] kinds = new int[MOST_STAIRS];
        final int[] lows = new int[MOST_STAIRS];
        final int[] highs = new int[MOST_STAIRS];
        final int[] parts = new int[MOST_STAIRS];

        boolean hasPlace(int place) {
            return place >= 0 && place < places;
        }

        boolean hasStair(int r) {
            return r >= 0 && r < stairs;
        }

        boolean hasPart(int r, int part) {
            return hasStair(r) && part >= 0 && part < parts[r];
        }

        void become(Plan other) {
            places = other.places;
            stairs = other.stairs;
            for (int r = 0; r < MOST_STAIRS; r++) {
                kinds[r] = other.kinds[r];
                lows[r] = other.lows[r];
                highs[r] = other.highs[r];
                parts[r] = other.parts[r];
            }
        }
    }

    /** All that an image keeps. */
    private static final class State {
        int persons;
        final int[] at = new int[MOST_PERSONS];
        final int[] firsts = new int[MOST_PERSONS];
        final int[] seconds = new int[MOST_PERSONS];
        final int[] steps = new int[MOST_STAIRS * MOST_PARTS];
        final int[] worn = new int[MOST_STAIRS];
        int law;
        int seed;

        boolean hasPerson(int p) {
            return p >= 0 && p < persons;
        }

        boolean hasPersons(int set) {
            return set >= 0 && set < 1 << persons;
        }

        /** The caller has seen that there are fewer than the most. */
        void addPerson(int place, int first, int second) {
            if (persons < MOST_PERSONS) {
                at[persons] = place;
                firsts[persons] = first;
                seconds[persons] = second;
                persons++;
            }
        }

        /** Takes over what a text tells; law and seed, which none tells, stay. */
        void becomeTold(State other) {
            persons = other.persons;
            for (int p = 0; p < MOST_PERSONS; p++) {
                at[p] = other.at[p];
                firsts[p] = other.firsts[p];
                seconds[p] = other.seconds[p];
            }
            for (int i = 0; i < MOST_STAIRS * MOST_PARTS; i++) {
                steps[i] = other.steps[i];
            }
            for (int r = 0; r < MOST_STAIRS; r++) {
                worn[r] = 0;
            }
        }

        void become(State other) {
            becomeTold(other);
            for (int r = 0; r < MOST_STAIRS; r++) {
                worn[r] = other.worn[r];
            }
            law = other.law;
            seed = other.seed;
        }

        /** The next draw of n. */
        int draw(int n) {
            seed = (int) ((seed * 1103515245L + 12345L) & 2147483647L);
            return n > 0 ? seed / 65536 % n : 0;
        }
    }

    /** A plan and how things stand on it. Its callers have looked at the numbers that they hand in. */
    private static final class Town {
        final Plan plan = new Plan();
        final State state = new State();
        private final int[] liftsUp = new int[MOST_PERSONS];
        private final int[] liftsDown = new int[MOST_PERSONS];

        void clear() {
            plan.places = 0;
            plan.stairs = 0;
            state.persons = 0;
        }

        void becomeTold(Town other) {
            plan.become(other.plan);
            state.becomeTold(other.state);
        }

        int allWorn() {
            int sum = 0;
            for (int r = 0; r < plan.stairs; r++) {
                sum += state.worn[r];
            }
            return sum;
        }

        /** Whether a stride fits a stair, had one part "by" steps more (NONE: as they are). */
        boolean allows(int r, int stride, int part, int by) {
            if (stride < 1) {
                return false;
            }
            int kind = plan.kinds[r];
            if (kind == OPEN || kind == LEAP && stride == 1) {
                return true;
            }
            for (int i = 0; i < plan.parts[r]; i++) {
                int n = state.steps[MOST_PARTS * r + i] + (i == part ? by : 0);
                if (kind == LEAP ? n != stride : !goesInto(stride, n)) {
                    return false;
                }
            }
            return true;
        }

        boolean mayClimb(int p, int r) {
            return allows(r, state.firsts[p], NONE, 0) || allows(r, state.seconds[p], NONE, 0);
        }

        /** The persons who may climb a stair, had one part "by" steps more (NONE: as they are). */
        int climbers(int r, int part, int by) {
            int set = 0;
            for (int p = 0; p < state.persons; p++) {
                if (allows(r, state.firsts[p], part, by) || allows(r, state.seconds[p], part, by)) {
                    set |= 1 << p;
                }
            }
            return set;
        }

        int shutOutByLess(int r, int part) {
            if (state.steps[MOST_PARTS * r + part] < 2) {
                return 0;
            }
            return Integer.bitCount(climbers(r, NONE, 0) & ~climbers(r, part, -1));
        }

        int stridesThatFit(int r) {
            int set = 0;
            for (int stride = 1; stride <= MOST_STRIDE; stride++) {
                if (allows(r, stride, NONE, 0)) {
                    set |= 1 << stride - 1;
                }
            }
            return set;
        }

        /** The set of stairs that one with these strides goes up. */
        int upStairs(int first, int second) {
            int set = 0;
            for (int r = 0; r < plan.stairs; r++) {
                if (allows(r, first, NONE, 0) || allows(r, second, NONE, 0)) {
                    set |= 1 << r;
                }
            }
            return set;
        }

        int allStairs() {
            return (1 << plan.stairs) - 1;
        }

        /** The set of stairs that one goes down who goes up those. */
        int downStairs(int up) {
            return state.law == 1 ? allStairs() : up;
        }

        /** The set of places to which these stairs lead from a place. */
        int spread(int from, int up, int down) {
            int set = 1 << from;
            int before = 0;
            // A way without a turn has fewer stairs than there are places.
            for (int pass = 0; pass < plan.places && set != before; pass++) {
                before = set;
                for (int r = 0; r < plan.stairs; r++) {
                    if (has(up, r) && has(set, plan.lows[r])) {
                        set |= 1 << plan.highs[r];
                    }
                    if (has(down, r) && has(set, plan.highs[r])) {
                        set |= 1 << plan.lows[r];
                    }
                }
            }
            return set;
        }

        int reachFrom(int from, int first, int second) {
            int up = upStairs(first, second);
            return spread(from, up, downStairs(up));
        }

        int reachOfPerson(int p) {
            return reachFrom(state.at[p], state.firsts[p], state.seconds[p]);
        }

        /** Where a person comes from a place over a stair; NONE: it cannot. */
        int otherEnd(int p, int r, int from) {
            if (from == plan.lows[r]) {
                return mayClimb(p, r) ? plan.highs[r] : NONE;
            }
            if (from == plan.highs[r]) {
                return state.law == 1 || mayClimb(p, r) ? plan.lows[r] : NONE;
            }
            return NONE;
        }

        /** The stride by which a person takes a stair's steps. */
        int strideOn(int p, int r) {
            int first = state.firsts[p];
            int second = state.seconds[p];
            if (!allows(r, second, NONE, 0)) {
                return first;
            }
            return allows(r, first, NONE, 0) ? Math.max(first, second) : second;
        }

        int stepsTaken(int r, int stride) {
            int sum = 0;
            for (int i = 0; i < plan.parts[r]; i++) {
                int n = state.steps[MOST_PARTS * r + i];
                sum += stride > 0 ? (n + stride - 1) / stride : 0;
            }
            return sum;
        }

        /** A person goes a stair, if it can: whether it did. */
        boolean travel(int p, int r) {
            int end = otherEnd(p, r, state.at[p]);
            if (end == NONE) {
                return false;
            }
            state.worn[r] += stepsTaken(r, strideOn(p, r));
            state.at[p] = end;
            return true;
        }

        void liveDay() {
            int p = state.draw(state.persons);
            int r = state.draw(plan.stairs);
            travel(p, r);
            // The draw is made even where there is no room for a child.
            boolean bears = state.draw(16) == 0;
            if (bears && state.persons < MOST_PERSONS) {
                int stride = state.draw(2) == 0 ? state.firsts[p] : state.draw(MOST_STRIDE) + 1;
                state.addPerson(state.at[p], stride, 0);
            }
        }

        /** The fewest who bring a person to a place, of like ones the least set; NONE. */
        int fewestCarriers(int p, int place) {
            findLifts();
            int ownUp = upStairs(state.firsts[p], state.seconds[p]);
            int ownDown = downStairs(ownUp);
            int fewest = NONE;
            for (int set = 0; set < 1 << state.persons; set++) {
                if (isFewer(set, fewest)) {
                    int up = ownUp | union(liftsUp, set);
                    int down = ownDown | union(liftsDown, set);
                    fewest = has(spread(state.at[p], up, down), place) ? set : fewest;
                }
            }
            return fewest;
        }

        /** For each person the stairs, up and down, at whose beginning it can be and which it may go. */
        private void findLifts() {
            for (int c = 0; c < state.persons; c++) {
                int up = upStairs(state.firsts[c], state.seconds[c]);
                int down = downStairs(up);
                int near = spread(state.at[c], up, down);
                liftsUp[c] = 0;
                liftsDown[c] = 0;
                for (int r = 0; r < plan.stairs; r++) {
                    if (has(up, r) && has(near, plan.lows[r])) {
                        liftsUp[c] |= 1 << r;
                    }
                    if (has(down, r) && has(near, plan.highs[r])) {
                        liftsDown[c] |= 1 << r;
                    }
                }
            }
        }

        private int union(int[] stairSets, int people) {
            int all = 0;
            for (int c = 0; c < state.persons; c++) {
                if (has(people, c)) {
                    all |= stairSets[c];
                }
            }
            return all;
        }

        /** The fewest persons who climb all stairs between them, of like ones the least set; NONE. */
        int fewestClimbers() {
            for (int p = 0; p < state.persons; p++) {
                liftsUp[p] = upStairs(state.firsts[p], state.seconds[p]);
            }
            int fewest = NONE;
            for (int set = 0; set < 1 << state.persons; set++) {
                if (isFewer(set, fewest) && union(liftsUp, set) == allStairs()) {
                    fewest = set;
                }
            }
            return fewest;
        }

        /** Sets are tried from the least on, so that of like ones the first stays. */
        private static boolean isFewer(int set, int fewest) {
            return fewest == NONE || Integer.bitCount(set) < Integer.bitCount(fewest);
        }
    }

    /** What was seen of somebody unknown. */
    private static final class Sights {
        int count;
        private final int[] begins = new int[MOST_SEEN];
        private final int[] ends = new int[MOST_SEEN];
        private final boolean[] came = new boolean[MOST_SEEN];

        void append(int begin, int place, boolean was) {
            if (count < MOST_SEEN) {
                begins[count] = begin;
                ends[count] = place;
                came[count] = was;
                count++;
            }
        }

        int stridesAsSeen(Town now) {
            int set = 0;
            for (int stride = 1; stride <= MOST_STRIDE; stride++) {
                if (isAsSeen(now, stride)) {
                    set |= 1 << stride - 1;
                }
            }
            return set;
        }

        private boolean isAsSeen(Town now, int stride) {
            int up = now.upStairs(stride, 0);
            int down = now.downStairs(up);
            for (int i = 0; i < count; i++) {
                if (has(now.spread(begins[i], up, down), ends[i]) != came[i]) {
                    return false;
                }
            }
            return true;
        }
    }

    /** Journeys that are told and not yet gone. */
    private static final class Book {
        int count;
        private final int[] goers = new int[MOST_WRITTEN];
        private final int[] ways = new int[MOST_WRITTEN];
        private final int[] whereNow = new int[MOST_PERSONS];

        void append(int p, int r) {
            if (count < MOST_WRITTEN) {
                goers[count] = p;
                ways[count] = r;
                count++;
            }
        }

        int firstWrong(Town now) {
            for (int p = 0; p < now.state.persons; p++) {
                whereNow[p] = now.state.at[p];
            }
            for (int i = 0; i < count; i++) {
                int p = goers[i];
                // An image may have brought back a time in which this person was not born.
                if (!now.state.hasPerson(p) || !now.plan.hasStair(ways[i])) {
                    return i;
                }
                int end = now.otherEnd(p, ways[i], whereNow[p]);
                if (end == NONE) {
                    return i;
                }
                whereNow[p] = end;
            }
            return NONE;
        }
    }

    /** The text and its reading into a draft, so that a faulty text leaves the town as it was. */
    private static final class Text {
        private static final int END = -1;
        private static final int MISPLACED = 1;
        private static final int OUT_OF_BOUNDS = 2;
        private static final int TOO_MANY = 3;
        private static final int SAME_PLACE = 4;

        int length;
        int faultKind;
        int faultAt;
        final Town draft = new Town();
        private final byte[] bytes = new byte[MOST_BYTES];
        private int at;

        void append(int b) {
            if (length < MOST_BYTES) {
                bytes[length] = (byte) b;
                length++;
            }
        }

        /** Whether the text has no fault; the draft is the town then. */
        boolean read() {
            draft.clear();
            at = 0;
            faultKind = 0;
            faultAt = NONE;
            // A clause has more than one byte, so there are fewer clauses than bytes.
            for (int clause = 0; clause < MOST_BYTES && faultKind == 0 && look() != END; clause++) {
                readClause();
            }
            return faultKind == 0;
        }

        private void readClause() {
            int start = at;
            skipWord();
            boolean isPlaces = isWord(start, "places");
            if (draft.plan.places == 0) {
                if (isPlaces) {
                    readPlaces();
                } else {
                    fail(MISPLACED, start);
                }
            } else if (isPlaces) {
                fail(TOO_MANY, start);
            } else if (isWord(start, "stair")) {
                readStair(start);
            } else if (isWord(start, "person")) {
                readPerson(start);
            } else {
                fail(MISPLACED, start);
            }
        }

        private void readPlaces() {
            int n = readNumber(1, MOST_PLACES);
            if (n != NONE && readSign(';')) {
                draft.plan.places = n;
            }
        }

        private void readStair(int start) {
            int r = draft.plan.stairs;
            if (r >= MOST_STAIRS) {
                fail(TOO_MANY, start);
                return;
            }
            int kind = readKind();
            int low = kind == NONE ? NONE : readPlace(NONE);
            int high = low == NONE ? NONE : readPlace(low);
            int parts = high == NONE ? NONE : readParts(r);
            if (parts != NONE) {
                draft.plan.kinds[r] = kind;
                draft.plan.lows[r] = low;
                draft.plan.highs[r] = high;
                draft.plan.parts[r] = parts;
                draft.plan.stairs = r + 1;
            }
        }

        /** How many parts there are, behind whose last one the clause ends; NONE. */
        private int readParts(int r) {
            for (int part = 0; part < MOST_PARTS; part++) {
                int n = readNumber(1, MOST_STEPS);
                if (n == NONE) {
                    return NONE;
                }
                draft.state.steps[MOST_PARTS * r + part] = n;
                if (part == MOST_PARTS - 1 || look() != ',') {
                    return readSign(';') ? part + 1 : NONE;
                }
                at++;
            }
            return NONE;
        }

        private void readPerson(int start) {
            if (draft.state.persons >= MOST_PERSONS) {
                fail(TOO_MANY, start);
                return;
            }
            int place = readPlace(NONE);
            int first = place == NONE ? NONE : readNumber(1, MOST_STRIDE);
            if (first == NONE) {
                return;
            }
            int second = isFigure(look()) ? readNumber(1, MOST_STRIDE) : 0;
            if (second != NONE && readSign(';')) {
                draft.state.addPerson(place, first, second);
            }
        }

        private int readKind() {
            look();
            int start = at;
            skipWord();
            if (isWord(start, "plain")) {
                return PLAIN;
            }
            if (isWord(start, "open")) {
                return OPEN;
            }
            if (isWord(start, "leap")) {
                return LEAP;
            }
            fail(MISPLACED, start);
            return NONE;
        }

        /** A place that is not that one. */
        private int readPlace(int other) {
            look();
            int start = at;
            int place = readNumber(0, draft.plan.places - 1);
            if (place != NONE && place == other) {
                fail(SAME_PLACE, start);
                return NONE;
            }
            return place;
        }

        private int readNumber(int least, int most) {
            boolean found = isFigure(look());
            int start = at;
            if (!found) {
                fail(MISPLACED, start);
                return NONE;
            }
            int value = 0;
            while (at < length && isFigure(bytes[at])) {
                // The fourth figure makes it wrong, whatever follows.
                if (at - start < 3) {
                    value = 10 * value + bytes[at] - '0';
                }
                at++;
            }
            if (at - start > 3 || value < least || value > most) {
                fail(OUT_OF_BOUNDS, start);
                return NONE;
            }
            return value;
        }

        private boolean readSign(char sign) {
            if (look() != sign) {
                fail(MISPLACED, at);
                return false;
            }
            at++;
            return true;
        }

        /** The next byte that is no blank, or END. */
        private int look() {
            while (at < length && bytes[at] == ' ') {
                at++;
            }
            return at < length ? bytes[at] & 255 : END;
        }

        private void skipWord() {
            while (at < length && bytes[at] >= 'a' && bytes[at] <= 'z') {
                at++;
            }
        }

        /** Whether the bytes from start to here are that word. */
        private boolean isWord(int start, String word) {
            if (start < 0 || at > length || at - start != word.length()) {
                return false;
            }
            for (int i = 0; i < word.length(); i++) {
                if (bytes[start + i] != word.charAt(i)) {
                    return false;
                }
            }
            return true;
        }

        private static boolean isFigure(int b) {
            return b >= '0' && b <= '9';
        }

        private void fail(int kind, int where) {
            faultKind = kind;
            faultAt = where;
        }
    }
}
