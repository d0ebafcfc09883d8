/**
 * Shared by points: each party gives points to things; two share so that both have alike, all share whole things so
 * that the least share is greatest. Every row is made once, in the constructor, and used again: no call makes objects.
 */
public final class PointShares {
    public static final int NONE = -1, BAD = -2, STATE = -3, FULL = -4;
    /** There is no such number. */
    public static final long NO = Long.MIN_VALUE;

    private static final int NO_SUCH = -5;
    private static final int NOTHING = -11, CAST = -12, PLACE = -13, SIZE = -14;
    private static final int NOBODY = -1;
    private static final int LEAST_PARTIES = 2, MOST_PARTIES = 4, MOST_THINGS = 6, MOST_POINTS = 99;
    private static final int MOST_SEEN = 5, MOST_EVENTS = 8, MOST_BOOK = 8;
    private static final int MOST_SIGNS = 100, MOST_CLAUSES = 14;
    private static final int MOST_FIT = 20, MOST_ODDS = 10;
    private static final int TAPES = 6, MOST_ITEMS = 60, LONGS = 3, MOST_SORT = 4;

    private final Setup now = new Setup();
    private final Setup kept = new Setup();
    private boolean isKept;
    private final Adjustment adjustment = new Adjustment();
    private final WholeWays wholeWays = new WholeWays();
    /** Points as they would be: what is asked must leave those of the set-up alone. */
    private final int[][] tried = new int[MOST_PARTIES][MOST_THINGS];
    private final Text text = new Text();
    private final Tape[] tapes = new Tape[TAPES];

    public PointShares() {
        for (int k = 0; k < tapes.length; k++) {
            tapes[k] = new Tape();
        }
    }

    // ---- parties, things, points.

    public int parties(int n) {
        if (n < LEAST_PARTIES || n > MOST_PARTIES) {
            return BAD;
        }
        int was = now.n;
        now.beginWith(n);
        return was;
    }

    public int thing() {
        if (now.things >= MOST_THINGS) {
            return FULL;
        }
        return now.addThing();
    }

    public int point(int party, int thing, int v) {
        if (!isParty(party) || !isThing(thing)) {
            return NONE;
        }
        if (v < 0 || v > MOST_POINTS) {
            return BAD;
        }
        int was = now.points[party][thing];
        now.points[party][thing] = v;
        return was;
    }

    public int of(int party, int thing) {
        if (!isParty(party) || !isThing(thing)) {
            return NONE;
        }
        return now.points[party][thing];
    }

    public int hold(int thing, int party) {
        if (!isThing(thing) || (party != NOBODY && !isParty(party))) {
            return NONE;
        }
        int was = now.first[thing];
        now.giveWhole(thing, party);
        return orNoSuch(was);
    }

    public int split(int thing, int party, int up, int low) {
        if (!isThing(thing) || !isParty(party)) {
            return NONE;
        }
        if (up < 1 || low > MOST_POINTS || up >= low) {
            return BAD;
        }
        if (now.first[thing] == NOBODY || now.first[thing] == party) {
            return STATE;
        }
        if (now.cut >= 0 && now.cut != thing) {
            return FULL;
        }
        now.cutThing(thing, party, up, low);
        return now.cuts();
    }

    public int settle(int i, int j) {
        if (!areTwo(i, j)) {
            return NONE;
        }
        if (!adjustment.workOut(now.points, now.things, i, j)) {
            return STATE;
        }
        now.divideBy(adjustment);
        return orNoSuch(adjustment.cut);
    }

    public int feed(int sign) {
        if (sign < 0 || sign > 127) {
            return BAD;
        }
        if (text.size >= MOST_SIGNS) {
            return FULL;
        }
        return text.append(sign);
    }

    public int read() {
        int fault = text.fault();
        int done = 0;
        if (fault < 0) {
            int at = 0;
            for (int k = 0; k < MOST_CLAUSES && at < text.size; k++) {
                int end = text.endOfClause(at);
                int answer = doClause(at, end);
                if (answer >= 0 || answer == NO_SUCH) {
                    done++;
                }
                at = end + 1;
            }
        }
        text.size = 0;
        return fault < 0 ? done : -10 - fault;
    }

    // ---- the division.

    public int holder(int thing, int what) {
        if (!isThing(thing) || what < 0 || what > 1) {
            return NONE;
        }
        if (what == 0) {
            return orNoSuch(now.first[thing]);
        }
        return now.cut == thing ? orNoSuch(now.second) : NO_SUCH;
    }

    public long held(int party, int thing, int part) {
        if (!isParty(party) || !isThing(thing) || !isPart(part)) {
            return NO;
        }
        return inLowestTerms(now.partsOf(party, thing), now.cutLow, part);
    }

    public long share(int by, int of, int part) {
        if (!isParty(by) || !isParty(of) || !isPart(part)) {
            return NO;
        }
        long total = now.total(by);
        if (total == 0) {
            return 1;
        }
        return inLowestTerms(now.worth(by, of), total * now.cutLow, part);
    }

    public int claim(int party, int k) {
        if (!isParty(party) || k < 0) {
            return NONE;
        }
        int claim = claimOf(party);
        if (k == 0) {
            return claim;
        }
        if (k == 1) {
            return causeOf(claim, party);
        }
        return k == 2 ? secondCauseOf(claim, party) : NO_SUCH;
    }

    public int better(int i, int j) {
        if (!areTwo(i, j)) {
            return NONE;
        }
        int[] ofI = now.points[i];
        int[] ofJ = now.points[j];
        for (int t = 0; t < now.things; t++) {
            if (now.partsOf(i, t) > 0) {
                for (int u = 0; u < now.things; u++) {
                    if (now.partsOf(j, u) > 0 && ofI[t] * ofJ[u] < ofI[u] * ofJ[t]) {
                        return 10 * t + u;
                    }
                }
            }
        }
        return NO_SUCH;
    }

    public int told(int what) {
        switch (what) {
            case 0:
                return now.n;
            case 1:
                return now.things;
            case 2:
                return now.cuts();
            case 3:
                return now.unheld();
            case 4:
                return enviousBits();
            case 5:
                wholeWays.search(now.points, now.n, now.things);
                return wholeWays.bestPoorest;
            default:
                return NONE;
        }
    }

    public int all(int party) {
        return isParty(party) ? now.total(party) : NONE;
    }

    // ---- adjusted, fairest.

    public int adjusted(int i, int j, int what) {
        if (!areTwo(i, j) || what < 0 || what > 4) {
            return NONE;
        }
        if (!adjustment.workOut(now.points, now.things, i, j)) {
            return STATE;
        }
        switch (what) {
            case 0:
                return orNoSuch(adjustment.cut);
            case 1:
                return adjustment.bitsOf(i);
            case 2:
                return adjustment.bitsOf(j);
            case 3:
                return adjustment.moved;
            default:
                return orNoSuch(adjustment.rich);
        }
    }

    public long alike(int i, int j, int part) {
        if (!areTwo(i, j) || !isPart(part) || !adjustment.workOut(now.points, now.things, i, j)) {
            return NO;
        }
        return inLowestTerms(adjustment.alikeUp, adjustment.alikeLow, part);
    }

    public long parted(int i, int j, int part) {
        if (!areTwo(i, j) || !isPart(part) || !adjustment.workOut(now.points, now.things, i, j)) {
            return NO;
        }
        return inLowestTerms(adjustment.cutUp, adjustment.cutLow, part);
    }

    public int ratio(int i, int j, int k) {
        if (!areTwo(i, j) || k < 0 || k >= now.things) {
            return NONE;
        }
        for (int t = 0; t < now.things; t++) {
            int ahead = 0;
            for (int u = 0; u < now.things; u++) {
                if (u != t && comesFirst(now.points[i], now.points[j], u, t)) {
                    ahead++;
                }
            }
            if (ahead == k) {
                return t;
            }
        }
        return NONE;
    }

    public int fair(int thing) {
        if (!isThing(thing)) {
            return NONE;
        }
        wholeWays.search(now.points, now.n, now.things);
        return wholeWays.best[thing];
    }

    public long fairest(int part) {
        if (!isPart(part)) {
            return NO;
        }
        wholeWays.search(now.points, now.n, now.things);
        return inLowestTerms(wholeWays.bestUp, wholeWays.bestLow, part);
    }

    // ---- seen, odds.

    public int see(int thing, int party) {
        if (thing == -1) {
            return now.seen.empty();
        }
        if (!isThing(thing)) {
            return NONE;
        }
        if (party < 0 || party > 1) {
            return BAD;
        }
        return now.seen.isFull() ? FULL : now.seen.append(thing, party);
    }

    public int fits(int party, int thing, int what) {
        if (party < 0 || party > 1 || !isThing(thing) || what < 0 || what > 1) {
            return NONE;
        }
        copyPoints(now.points, tried);
        int many = 0;
        int least = NO_SUCH;
        for (int v = 0; v <= MOST_FIT; v++) {
            tried[party][thing] = v;
            if (triedFitsSeen()) {
                if (many == 0) {
                    least = v;
                }
                many++;
            }
        }
        return what == 0 ? many : least;
    }

    public long odds(int thing, int part) {
        if (!isThing(thing) || !isPart(part)) {
            return NO;
        }
        copyPoints(now.points, tried);
        int cases = 0;
        for (int v = 1; v <= MOST_ODDS; v++) {
            tried[0][thing] = v;
            if (adjustment.workOut(tried, now.things, 0, 1) && adjustment.cut == thing) {
                cases++;
            }
        }
        return inLowestTerms(cases, MOST_ODDS, part);
    }

    public long mean(int party, int part) {
        if (!isParty(party) || !isPart(part) || now.things == 0) {
            return NO;
        }
        return inLowestTerms(now.total(party), now.things, part);
    }

    // ---- events, books.

    public int event(int what, int n) {
        if (what == -1) {
            return now.events.empty();
        }
        if (what < 0 || what > 3 || (what < 3 && !isThing(n))) {
            return NONE;
        }
        if (n < 0 || n > MOST_POINTS) {
            return BAD;
        }
        return now.events.isFull() ? FULL : now.events.append(what, n);
    }

    public long after(int what) {
        if (what < 0 || what > 2) {
            return NO;
        }
        copyPoints(now.points, tried);
        for (int k = 0; k < now.events.size; k++) {
            letHappen(now.events.left[k], now.events.right[k]);
        }
        if (!adjustment.workOut(tried, now.things, 0, 1)) {
            return NO;
        }
        if (what == 2) {
            return orNoSuch(adjustment.cut);
        }
        return inLowestTerms(adjustment.alikeUp, adjustment.alikeLow, what);
    }

    public int book(int thing, int party) {
        if (thing == -1) {
            return now.book.empty();
        }
        if (!isThing(thing) || !isParty(party)) {
            return NONE;
        }
        return now.book.isFull() ? FULL : now.book.append(thing, party);
    }

    public int looked() {
        for (int k = 0; k < now.book.size; k++) {
            if (now.partsOf(now.book.right[k], now.book.left[k]) == 0) {
                return k;
            }
        }
        return NO_SUCH;
    }

    // ---- judging, the image, tapes.

    public int judge(int tape, int i) {
        if (!isTape(tape)) {
            return NONE;
        }
        Tape row = tapes[tape];
        if (!row.isNothing() && row.sort != LONGS) {
            return CAST;
        }
        for (int t = 0; t < now.things; t++) {
            if (i < 0 || i >= row.length - t) {
                return 100 + t;
            }
            if (row.items[i + t] != now.first[t]) {
                return t;
            }
        }
        return NO_SUCH;
    }

    public int image() {
        kept.become(now);
        isKept = true;
        return now.things;
    }

    public int undo() {
        if (!isKept) {
            return STATE;
        }
        now.become(kept);
        return now.things;
    }

    public int count(int what) {
        switch (what) {
            case 0:
                return now.seen.size;
            case 1:
                return now.events.size;
            case 2:
                return now.book.size;
            case 3:
                return text.size;
            default:
                return BAD;
        }
    }

    public int tape(int tape, int sort, int n) {
        if (!isTape(tape)) {
            return NONE;
        }
        if (sort < -1 || sort > MOST_SORT || (sort >= 0 && n > MOST_ITEMS)) {
            return BAD;
        }
        if (sort >= 0 && n < 0) {
            return SIZE;
        }
        tapes[tape].begin(sort, sort < 0 ? 0 : n);
        return 1;
    }

    public int item(int tape, int i, long v) {
        if (!isTape(tape)) {
            return NONE;
        }
        Tape row = tapes[tape];
        if (row.isNothing()) {
            return NOTHING;
        }
        if (i < 0 || i >= row.length) {
            return PLACE;
        }
        row.items[i] = row.asItem(v);
        return 1;
    }

    public long peek(int tape, int i) {
        if (!isTape(tape) || i < 0 || i >= tapes[tape].length) {
            return NO;
        }
        return tapes[tape].items[i];
    }

    public int shift(int tape, int i, int other, int j, int n) {
        if (!isTape(tape) || !isTape(other)) {
            return NONE;
        }
        Tape from = tapes[tape];
        Tape to = tapes[other];
        if (from.isNothing() || to.isNothing()) {
            return NOTHING;
        }
        if (from.sort != to.sort) {
            return CAST;
        }
        if (!from.hasPlaces(i, n) || !to.hasPlaces(j, n)) {
            return PLACE;
        }
        System.arraycopy(from.items, i, to.items, j, n);
        return n;
    }

    // ---- what the calls have in common.

    private boolean isParty(int party) {
        return party >= 0 && party < now.n;
    }

    private boolean areTwo(int i, int j) {
        return isParty(i) && isParty(j) && i != j;
    }

    private boolean isThing(int thing) {
        return thing >= 0 && thing < now.things;
    }

    private static boolean isPart(int part) {
        return part == 0 || part == 1;
    }

    private static boolean isTape(int tape) {
        return tape >= 0 && tape < TAPES;
    }

    private static int orNoSuch(int number) {
        return number < 0 ? NO_SUCH : number;
    }

    /** Neither number is below 0. */
    private static long commonDivisor(long a, long b) {
        long x = a;
        long y = b;
        // each two steps halve the numbers, so that 200 are more than a long can need
        for (int step = 0; step < 200 && y != 0; step++) {
            long rest = x % y;
            x = y;
            y = rest;
        }
        return x;
    }

    /** The number above (part 0) or below the line (1) of up by low. */
    private static long inLowestTerms(long up, long low, int part) {
        long divisor = commonDivisor(up, low);
        long number = part == 0 ? up : low;
        return divisor > 0 ? number / divisor : number;
    }

    private static void copyPoints(int[][] from, int[][] to) {
        for (int p = 0; p < MOST_PARTIES; p++) {
            System.arraycopy(from[p], 0, to[p], 0, MOST_THINGS);
        }
    }

    private static int sumOf(int[] row, int size) {
        int sum = 0;
        for (int k = 0; k < size; k++) {
            sum += row[k];
        }
        return sum;
    }

    /** Whether thing t comes ahead of u by RATIO, if the one with the points ofRich were RICH. */
    private static boolean comesFirst(int[] ofRich, int[] ofPoor, int t, int u) {
        boolean isLastT = ofPoor[t] == 0;
        boolean isLastU = ofPoor[u] == 0;
        if (isLastT != isLastU) {
            return isLastU;
        }
        int ratioT = ofRich[t] * ofPoor[u];
        int ratioU = ofRich[u] * ofPoor[t];
        return isLastT || ratioT == ratioU ? t < u : ratioT < ratioU;
    }

    // ---- reading.

    /** What the call answers that the clause at this place stands for. */
    private int doClause(int at, int end) {
        int first = text.digitAt(at + 1);
        int second = text.digitAt(at + 2);
        switch (text.signAt(at)) {
            case 'n':
                return parties(first);
            case 't':
                return thing();
            case 'p':
                return point(first, second, text.numberIn(at + 3, end));
            case 'h':
                return hold(first, second);
            default:
                return settle(first, second);
        }
    }

    // ---- claims.

    private int claimOf(int party) {
        if (now.total(party) == 0) {
            return 1;
        }
        if (firstUnheld(party) >= 0) {
            return 2;
        }
        if (now.worth(party, party) * now.n < now.total(party) * now.cutLow) {
            return 3;
        }
        return firstEnvied(party) >= 0 ? 4 : 0;
    }

    private int causeOf(int claim, int party) {
        switch (claim) {
            case 1:
                return 10 + Integer.bitCount(now.bitsOf(party));
            case 2:
                return 10 + firstUnheld(party);
            case 3:
                return now.bitsOf(party);
            case 4:
                return 10 + firstEnvied(party);
            default:
                return NO_SUCH;
        }
    }

    private int secondCauseOf(int claim, int party) {
        if (claim == 2) {
            int thing = firstUnheld(party);
            return thing < 0 ? NO_SUCH : now.points[party][thing];
        }
        return claim == 4 ? now.bitsOf(firstEnvied(party)) : NO_SUCH;
    }

    /** The first thing without a holder to which a party gives points, or -1. */
    private int firstUnheld(int party) {
        for (int t = 0; t < now.things; t++) {
            if (now.first[t] == NOBODY && now.points[party][t] > 0) {
                return t;
            }
        }
        return -1;
    }

    /** The first one whose share is greater by a party than its own, or -1. */
    private int firstEnvied(int party) {
        // with points for nothing all shares are 1 by it; its worths are all 0, so that it envies nobody
        long own = now.worth(party, party);
        for (int q = 0; q < now.n; q++) {
            if (now.worth(party, q) > own) {
                return q;
            }
        }
        return -1;
    }

    private int enviousBits() {
        int bits = 0;
        for (int p = 0; p < now.n; p++) {
            if (firstEnvied(p) >= 0) {
                bits |= 1 << p;
            }
        }
        return bits;
    }

    // ---- points as they would be.

    private boolean triedFitsSeen() {
        if (!adjustment.workOut(tried, now.things, 0, 1)) {
            return false;
        }
        for (int k = 0; k < now.seen.size; k++) {
            if (!adjustment.hasSome(now.seen.right[k], now.seen.left[k])) {
                return false;
            }
        }
        return true;
    }

    private void letHappen(int what, int n) {
        for (int p = 0; p < now.n; p++) {
            for (int t = 0; t < now.things; t++) {
                boolean isMeant = what == 3 ? tried[p][t] < n : t == n && (what == 2 || what == p);
                if (isMeant) {
                    tried[p][t] = 0;
                }
            }
        }
    }

    /** All that the image holds. */
    private static final class Setup {
        int n = LEAST_PARTIES;
        int things;
        final int[][] points = new int[MOST_PARTIES][MOST_THINGS];
        final int[] first = new int[MOST_THINGS];
        /** The thing that is split (-1: none), who has the part of it, and the part (0 by 1 if none is). */
        int cut = -1;
        int second = NOBODY;
        long cutUp;
        long cutLow = 1;
        final Rows seen = new Rows(MOST_SEEN);
        final Rows events = new Rows(MOST_EVENTS);
        final Rows book = new Rows(MOST_BOOK);

        void beginWith(int parties) {
            n = parties;
            things = 0;
            mendCut();
            seen.size = 0;
            events.size = 0;
            book.size = 0;
        }

        int addThing() {
            int thing = things;
            for (int p = 0; p < MOST_PARTIES; p++) {
                points[p][thing] = 0;
            }
            first[thing] = NOBODY;
            things++;
            return thing;
        }

        private void mendCut() {
            cut = -1;
            second = NOBODY;
            cutUp = 0;
            cutLow = 1;
        }

        void giveWhole(int thing, int party) {
            if (cut == thing) {
                mendCut();
            }
            first[thing] = party;
        }

        void cutThing(int thing, int party, long up, long low) {
            cut = thing;
            second = party;
            cutUp = inLowestTerms(up, low, 0);
            cutLow = inLowestTerms(up, low, 1);
        }

        void divideBy(Adjustment adjustment) {
            mendCut();
            System.arraycopy(adjustment.owner, 0, first, 0, MOST_THINGS);
            if (adjustment.cut >= 0) {
                cutThing(adjustment.cut, adjustment.poor, adjustment.cutUp, adjustment.cutLow);
            }
        }

        /** How many of cutLow parts of a thing a party holds. */
        long partsOf(int party, int thing) {
            if (cut == thing && second == party) {
                return cutUp;
            }
            if (first[thing] != party) {
                return 0;
            }
            return cut == thing ? cutLow - cutUp : cutLow;
        }

        int total(int party) {
            return sumOf(points[party], things);
        }

        /** Points of one party for what another one holds, cutLow times. */
        long worth(int by, int whose) {
            long sum = 0;
            for (int t = 0; t < things; t++) {
                sum += points[by][t] * partsOf(whose, t);
            }
            return sum;
        }

        int bitsOf(int party) {
            int bits = 0;
            for (int t = 0; t < things; t++) {
                if (partsOf(party, t) > 0) {
                    bits |= 1 << t;
                }
            }
            return bits;
        }

        int cuts() {
            return cut >= 0 ? 1 : 0;
        }

        int unheld() {
            int many = 0;
            for (int t = 0; t < things; t++) {
                if (first[t] == NOBODY) {
                    many++;
                }
            }
            return many;
        }

        void become(Setup other) {
            n = other.n;
            things = other.things;
            copyPoints(other.points, points);
            System.arraycopy(other.first, 0, first, 0, MOST_THINGS);
            cut = other.cut;
            second = other.second;
            cutUp = other.cutUp;
            cutLow = other.cutLow;
            seen.become(other.seen);
            events.become(other.events);
            book.become(other.book);
        }
    }

    /** Rows of two numbers, told by hand. */
    private static final class Rows {
        final int[] left;
        final int[] right;
        int size;

        Rows(int most) {
            left = new int[most];
            right = new int[most];
        }

        boolean isFull() {
            return size >= left.length;
        }

        /** Only if it isn't full. */
        int append(int a, int b) {
            left[size] = a;
            right[size] = b;
            size++;
            return size;
        }

        int empty() {
            size = 0;
            return 0;
        }

        /** The other one has as much room. */
        void become(Rows other) {
            System.arraycopy(other.left, 0, left, 0, left.length);
            System.arraycopy(other.right, 0, right, 0, right.length);
            size = other.size;
        }
    }

    /** ADJUSTED for two parties, by the points it was last worked out for. */
    private static final class Adjustment {
        /** Who has each thing; of the one that is split, who has the rest. */
        final int[] owner = new int[MOST_THINGS];
        private int things;
        int rich;
        int poor;
        int moved;
        int cut;
        /** The part of what is split that POOR has. */
        long cutUp;
        long cutLow;
        /** The share of both. */
        long alikeUp;
        long alikeLow;

        /** Whether there is one. */
        boolean workOut(int[][] points, int howMany, int i, int j) {
            things = howMany;
            int allI = sumOf(points[i], things);
            int allJ = sumOf(points[j], things);
            if (allI == 0 || allJ == 0) {
                return false;
            }
            long lead = giveFirst(points[i], points[j], i, j);
            moved = 0;
            cut = -1;
            cutUp = 0;
            cutLow = 1;
            rich = lead == 0 ? NOBODY : lead > 0 ? i : j;
            poor = lead > 0 ? j : i;
            if (lead > 0) {
                moveToPoor(points[i], points[j], lead);
            } else if (lead < 0) {
                moveToPoor(points[j], points[i], -lead);
            }
            // where nobody is RICH, i's share is as good as j's, and poor is i
            setAlike(points[poor]);
            return true;
        }

        /** Each thing goes to whom it is worth more: by how much i's share is above j's then, ALL times ALL. */
        private long giveFirst(int[] ofI, int[] ofJ, int i, int j) {
            int allI = sumOf(ofI, things);
            int allJ = sumOf(ofJ, things);
            long lead = 0;
            for (int t = 0; t < things; t++) {
                boolean isFirst = ofI[t] * allJ >= ofJ[t] * allI;
                owner[t] = isFirst ? i : j;
                lead += isFirst ? ofI[t] * allJ : -ofJ[t] * allI;
            }
            return lead;
        }

        private void moveToPoor(int[] ofRich, int[] ofPoor, long lead) {
            int allRich = sumOf(ofRich, things);
            int allPoor = sumOf(ofPoor, things);
            long gap = lead;
            for (int k = 0; k < things && gap > 0; k++) {
                int t = nextToMove(ofRich, ofPoor);
                if (t < 0) {
                    return;
                }
                long closes = ofRich[t] * allPoor + ofPoor[t] * allRich;
                if (closes > gap) {
                    cut = t;
                    cutUp = gap;
                    cutLow = closes;
                    return;
                }
                owner[t] = poor;
                moved++;
                gap -= closes;
            }
        }

        private int nextToMove(int[] ofRich, int[] ofPoor) {
            int next = -1;
            for (int t = 0; t < things; t++) {
                if (owner[t] == rich && (next < 0 || comesFirst(ofRich, ofPoor, t, next))) {
                    next = t;
                }
            }
            return next;
        }

        private void setAlike(int[] ofPoor) {
            long whole = 0;
            for (int t = 0; t < things; t++) {
                if (owner[t] == poor) {
                    whole += ofPoor[t];
                }
            }
            alikeUp = whole * cutLow + (cut < 0 ? 0 : ofPoor[cut] * cutUp);
            alikeLow = sumOf(ofPoor, things) * cutLow;
        }

        /** Of one of the two parties. */
        boolean hasSome(int party, int thing) {
            return owner[thing] == party || cut == thing;
        }

        int bitsOf(int party) {
            int bits = 0;
            for (int t = 0; t < things; t++) {
                if (hasSome(party, t)) {
                    bits |= 1 << t;
                }
            }
            return bits;
        }
    }

    /** All ways to give each thing whole to a party, and the FAIREST of them. */
    private static final class WholeWays {
        private int[][] points;
        private int n;
        private int things;
        private final int[] given = new int[MOST_THINGS];
        /** ALL of each party; of one with 0, 1, and it reaches 1: so its share is 1. */
        private final int[] total = new int[MOST_PARTIES];
        /** What each party has of its points if all that isn't given yet became its own. */
        private final int[] reach = new int[MOST_PARTIES];
        final int[] best = new int[MOST_THINGS];
        long bestUp;
        long bestLow;
        int bestPoorest;

        void search(int[][] ofParties, int parties, int howMany) {
            points = ofParties;
            n = parties;
            things = howMany;
            for (int p = 0; p < n; p++) {
                int sum = sumOf(points[p], things);
                total[p] = sum == 0 ? 1 : sum;
                reach[p] = total[p];
            }
            bestUp = -1;
            bestLow = 1;
            giveFrom(this, 0);
        }

        /** Gives the things from this one on in each way that may be fairer than the best. */
        private static void giveFrom(WholeWays ways, int thing) {
            int poorest = ways.poorest();
            // what is given further never adds to what a party can reach, and of equal ways the first is kept
            if (ways.reach[poorest] * ways.bestLow <= ways.bestUp * ways.total[poorest]) {
                return;
            }
            if (thing >= ways.things) {
                ways.keep(poorest);
                return;
            }
            for (int p = 0; p < ways.n; p++) {
                ways.given[thing] = p;
                ways.denyOthers(thing, p, 1);
                giveFrom(ways, thing + 1);
                ways.denyOthers(thing, p, -1);
            }
        }

        private int poorest() {
            int least = 0;
            for (int p = 1; p < n; p++) {
                if (reach[p] * total[least] < reach[least] * total[p]) {
                    least = p;
                }
            }
            return least;
        }

        private void keep(int poorest) {
            System.arraycopy(given, 0, best, 0, MOST_THINGS);
            bestUp = reach[poorest];
            bestLow = total[poorest];
            bestPoorest = poorest;
        }

        private void denyOthers(int thing, int party, int times) {
            for (int p = 0; p < n; p++) {
                if (p != party) {
                    reach[p] -= times * points[p][thing];
                }
            }
        }
    }

    /** THE TEXT, and where its clauses end. */
    private static final class Text {
        private final byte[] signs = new byte[MOST_SIGNS];
        int size;

        /** Only if there is room. */
        int append(int sign) {
            signs[size] = (byte) sign;
            size++;
            return size;
        }

        /** -1 beyond the end, which no clause has at any place. */
        int signAt(int at) {
            return at >= 0 && at < size ? signs[at] : -1;
        }

        /** -1: it is none. */
        int digitAt(int at) {
            int sign = signAt(at);
            return sign >= '0' && sign <= '9' ? sign - '0' : -1;
        }

        /** The digits from one place to ahead of another, as a number. */
        int numberIn(int from, int to) {
            int number = 0;
            for (int at = from; at < to; at++) {
                number = 10 * number + digitAt(at);
            }
            return number;
        }

        /** How many digits a clause with this sign has at least; -1: none begins so. */
        private static int digitsBehind(int sign) {
            switch (sign) {
                case 't':
                    return 0;
                case 'n':
                    return 1;
                case 'h':
                case 's':
                    return 2;
                case 'p':
                    return 3;
                default:
                    return -1;
            }
        }

        /** The place behind the clause that begins at this one; -1 less the place of its fault, if it has one. */
        int endOfClause(int from) {
            int digits = digitsBehind(signAt(from));
            if (digits < 0) {
                return -1 - from;
            }
            int end = from + 1 + digits;
            for (int at = from + 1; at < end; at++) {
                if (digitAt(at) < 0) {
                    return -1 - at;
                }
            }
            return signAt(from) == 'p' && digitAt(end) >= 0 ? end + 1 : end;
        }

        /** The FAULT OF THE TEXT; -1: there is none. */
        int fault() {
            int at = 0;
            for (int clause = 1; clause <= MOST_CLAUSES; clause++) {
                int end = endOfClause(at);
                if (end < 0) {
                    return -1 - end;
                }
                if (end == size) {
                    return -1;
                }
                if (clause == MOST_CLAUSES || signAt(end) != ';') {
                    return end;
                }
                at = end + 1;
            }
            return at;
        }
    }

    /** A row of numbers of one sort, or nothing. */
    private static final class Tape {
        int sort = -1;
        int length;
        final long[] items = new long[MOST_ITEMS];

        boolean isNothing() {
            return sort < 0;
        }

        void begin(int newSort, int newLength) {
            sort = newSort;
            length = newLength;
            for (int k = 0; k < items.length; k++) {
                items[k] = 0;
            }
        }

        /** What is left of a number in an item of this sort. */
        long asItem(long v) {
            switch (sort) {
                case 0:
                    return (byte) v;
                case 1:
                    return (short) v;
                case 2:
                    return (int) v;
                case LONGS:
                    return v;
                default:
                    return v != 0 ? 1 : 0;
            }
        }

        boolean hasPlaces(int from, int many) {
            return many >= 0 && from >= 0 && many <= length && from <= length - many;
        }
    }
}
