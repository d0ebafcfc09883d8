import java.math.BigInteger;
import java.util.ArrayList;
import java.util.Arrays;
import java.util.List;
import java.util.regex.Matcher;
import java.util.regex.Pattern;

/**
 * The document once more, written another way with the whole library: exact fractions as objects, every way tried,
 * clauses by a pattern. RandomTest asks it and PointShares the same.
 */
final class PlainShares {
    private static final int NONE = -1, BAD = -2, STATE = -3, FULL = -4;
    private static final Pattern CLAUSE = Pattern.compile("n[0-9]|t|p[0-9]{3,4}|h[0-9]{2}|s[0-9]{2}");
    private static final Pattern SET_UP = Pattern.compile("(" + CLAUSE + ")(;(" + CLAUSE + ")){0,13}");

    /** A fraction in lowest terms. */
    record Part(BigInteger up, BigInteger low) implements Comparable<Part> {
        static final Part ZERO = of(0, 1), ONE = of(1, 1);

        static Part of(long up, long low) {
            return of(BigInteger.valueOf(up), BigInteger.valueOf(low));
        }

        static Part of(BigInteger up, BigInteger low) {
            BigInteger divisor = up.gcd(low);
            return new Part(up.divide(divisor), low.divide(divisor));
        }

        Part plus(Part o) {
            return of(up.multiply(o.low).add(o.up.multiply(low)), low.multiply(o.low));
        }

        Part minus(Part o) {
            return of(up.multiply(o.low).subtract(o.up.multiply(low)), low.multiply(o.low));
        }

        Part times(Part o) {
            return of(up.multiply(o.up), low.multiply(o.low));
        }

        Part by(Part o) {
            return of(up.multiply(o.low), low.multiply(o.up));
        }

        public int compareTo(Part o) {
            return up.multiply(o.low).compareTo(o.up.multiply(low));
        }

        long shown(int part) {
            return (part == 0 ? up : low).longValueExact();
        }
    }

    /** What each party holds of each thing, who is the first holder, who the second one. */
    private static final class Split {
        Part[][] has = new Part[4][6];
        int[] first = new int[6];
        int[] second = new int[6];

        Split() {
            for (Part[] row : has) {
                Arrays.fill(row, Part.ZERO);
            }
            Arrays.fill(first, -5);
            Arrays.fill(second, -5);
        }

        Split copy() {
            Split s = new Split();
            for (int p = 0; p < 4; p++) {
                s.has[p] = has[p].clone();
            }
            s.first = first.clone();
            s.second = second.clone();
            return s;
        }

        void whole(int t, int p) {
            first[t] = p;
            second[t] = -5;
            for (int q = 0; q < 4; q++) {
                has[q][t] = q == p ? Part.ONE : Part.ZERO;
            }
        }

        void cut(int t, int p, Part part) {
            whole(t, first[t]);
            second[t] = p;
            has[p][t] = part;
            has[first[t]][t] = Part.ONE.minus(part);
        }

        int cutThing() {
            for (int t = 0; t < 6; t++) {
                if (second[t] >= 0) {
                    return t;
                }
            }
            return -5;
        }
    }

    private int n = 2;
    private int things;
    private int[][] points = new int[4][6];
    private Split division = new Split();
    private List<int[]> seen = new ArrayList<>();
    private List<int[]> events = new ArrayList<>();
    private List<int[]> book = new ArrayList<>();
    private String text = "";
    private PlainShares kept;
    private final int[] sorts = {-1, -1, -1, -1, -1, -1};
    private final long[][] tapes = new long[6][];

    public int parties(int m) {
        if (m < 2 || m > 4) {
            return BAD;
        }
        int was = n;
        n = m;
        things = 0;
        points = new int[4][6];
        division = new Split();
        seen = new ArrayList<>();
        events = new ArrayList<>();
        book = new ArrayList<>();
        return was;
    }

    public int thing() {
        return things == 6 ? FULL : things++;
    }

    private boolean no(int party, int t) {
        return noParty(party) || noThing(t);
    }

    private boolean noParty(int p) {
        return p < 0 || p >= n;
    }

    private boolean noThing(int t) {
        return t < 0 || t >= things;
    }

    private boolean noTwo(int i, int j) {
        return noParty(i) || noParty(j) || i == j;
    }

    public int point(int party, int t, int v) {
        if (no(party, t)) {
            return NONE;
        }
        if (v < 0 || v > 99) {
            return BAD;
        }
        int was = points[party][t];
        points[party][t] = v;
        return was;
    }

    public int of(int party, int t) {
        return no(party, t) ? NONE : points[party][t];
    }

    public int hold(int t, int party) {
        if (noThing(t) || party != -1 && noParty(party)) {
            return NONE;
        }
        int was = division.first[t];
        division.whole(t, party == -1 ? -5 : party);
        return was;
    }

    public int split(int t, int party, int up, int low) {
        if (no(party, t)) {
            return NONE;
        }
        if (up < 1 || up > 99 || low < 1 || low > 99 || up >= low) {
            return BAD;
        }
        if (division.first[t] < 0 || division.first[t] == party) {
            return STATE;
        }
        if (division.cutThing() >= 0 && division.cutThing() != t) {
            return FULL;
        }
        division.cut(t, party, Part.of(up, low));
        return 1;
    }

    private Part sumOf(int by, int whose, Split s) {
        Part sum = Part.ZERO;
        for (int t = 0; t < things; t++) {
            sum = sum.plus(Part.of(points[by][t], 1).times(s.has[whose][t]));
        }
        return sum;
    }

    private int allOf(int p) {
        return Arrays.stream(points[p], 0, things).sum();
    }

    private Part shareOf(int by, int whose, Split s) {
        return allOf(by) == 0 ? Part.ONE : sumOf(by, whose, s).by(Part.of(allOf(by), 1));
    }

    private int compareRatio(int rich, int poor, int t, int u) {
        boolean lastT = points[poor][t] == 0;
        boolean lastU = points[poor][u] == 0;
        if (lastT || lastU) {
            return lastT && lastU ? t - u : lastT ? 1 : -1;
        }
        int c = Part.of(points[rich][t], points[poor][t]).compareTo(Part.of(points[rich][u], points[poor][u]));
        return c != 0 ? c : t - u;
    }

    private List<Integer> byRatio(int rich, int poor) {
        List<Integer> list = new ArrayList<>();
        for (int t = 0; t < things; t++) {
            list.add(t);
        }
        list.sort((t, u) -> compareRatio(rich, poor, t, u));
        return list;
    }

    private int moved;
    private int rich;
    private Part poorPart;

    /** ADJUSTED for two (null: none), how many were MOVED, and RICH. */
    private Split adjust(int i, int j) {
        if (allOf(i) == 0 || allOf(j) == 0) {
            return null;
        }
        Split s = new Split();
        for (int t = 0; t < things; t++) {
            boolean isI = Part.of(points[i][t], allOf(i)).compareTo(Part.of(points[j][t], allOf(j))) >= 0;
            s.whole(t, isI ? i : j);
        }
        moved = 0;
        poorPart = Part.ZERO;
        int c = shareOf(i, i, s).compareTo(shareOf(j, j, s));
        rich = c == 0 ? -5 : c > 0 ? i : j;
        if (c == 0) {
            return s;
        }
        int poor = rich == i ? j : i;
        for (int t : byRatio(rich, poor)) {
            int still = shareOf(rich, rich, s).compareTo(shareOf(poor, poor, s));
            if (still == 0 || s.first[t] != rich) {
                continue;
            }
            Part gap = shareOf(rich, rich, s).minus(shareOf(poor, poor, s));
            s.whole(t, poor);
            if (shareOf(poor, poor, s).compareTo(shareOf(rich, rich, s)) <= 0) {
                moved++;
                continue;
            }
            Part closes = Part.of(points[rich][t], allOf(rich)).plus(Part.of(points[poor][t], allOf(poor)));
            poorPart = gap.by(closes);
            s.whole(t, rich);
            s.cut(t, poor, poorPart);
            break;
        }
        return s;
    }

    public int settle(int i, int j) {
        if (noTwo(i, j)) {
            return NONE;
        }
        Split s = adjust(i, j);
        if (s == null) {
            return STATE;
        }
        division = s;
        return s.cutThing();
    }

    public int feed(int sign) {
        if (sign < 0 || sign > 127) {
            return BAD;
        }
        if (text.length() == 100) {
            return FULL;
        }
        text += (char) sign;
        return text.length();
    }

    public int read() {
        String all = text;
        text = "";
        if (!SET_UP.matcher(all).matches()) {
            for (int k = 1; k <= all.length(); k++) {
                Matcher m = SET_UP.matcher(all.substring(0, k));
                if (!m.matches() && !m.hitEnd()) {
                    return -10 - (k - 1);
                }
            }
            return -10 - all.length();
        }
        int done = 0;
        for (String clause : all.split(";")) {
            int[] d = clause.substring(1).chars().map(c -> c - '0').toArray();
            int answer = switch (clause.charAt(0)) {
                case 'n' -> parties(d[0]);
                case 't' -> thing();
                case 'p' -> point(d[0], d[1], Integer.parseInt(clause.substring(3)));
                case 'h' -> hold(d[0], d[1]);
                default -> settle(d[0], d[1]);
            };
            done += answer < 0 && answer != -5 ? 0 : 1;
        }
        return done;
    }

    public int holder(int t, int what) {
        if (noThing(t) || what < 0 || what > 1) {
            return NONE;
        }
        return what == 0 ? division.first[t] : division.second[t];
    }

    private static boolean noPart(int part) {
        return part != 0 && part != 1;
    }

    public long held(int party, int t, int part) {
        return no(party, t) || noPart(part) ? PointShares.NO : division.has[party][t].shown(part);
    }

    public long share(int by, int whose, int part) {
        boolean none = noParty(by) || noParty(whose) || noPart(part);
        return none ? PointShares.NO : shareOf(by, whose, division).shown(part);
    }

    private int bits(int p, Split s) {
        int bits = 0;
        for (int t = 0; t < things; t++) {
            bits += s.has[p][t].compareTo(Part.ZERO) > 0 ? 1 << t : 0;
        }
        return bits;
    }

    public int claim(int p, int k) {
        if (noParty(p) || k < 0) {
            return NONE;
        }
        List<Integer> chain = chainOf(p);
        return k < chain.size() ? chain.get(k) : -5;
    }

    private List<Integer> chainOf(int p) {
        if (allOf(p) == 0) {
            return List.of(1, 10 + Integer.bitCount(bits(p, division)));
        }
        for (int t = 0; t < things; t++) {
            if (points[p][t] > 0 && division.first[t] < 0) {
                return List.of(2, 10 + t, points[p][t]);
            }
        }
        if (shareOf(p, p, division).compareTo(Part.of(1, n)) < 0) {
            return List.of(3, bits(p, division));
        }
        int q = envied(p);
        return q < 0 ? List.of(0) : List.of(4, 10 + q, bits(q, division));
    }

    private int envied(int p) {
        for (int q = 0; q < n; q++) {
            if (shareOf(p, q, division).compareTo(shareOf(p, p, division)) > 0) {
                return q;
            }
        }
        return -1;
    }

    public int better(int i, int j) {
        if (noTwo(i, j)) {
            return NONE;
        }
        for (int t = 0; t < things; t++) {
            for (int u = 0; u < things; u++) {
                boolean both = division.has[i][t].compareTo(Part.ZERO) > 0 && division.has[j][u].compareTo(Part.ZERO) > 0;
                if (both && points[i][t] * points[j][u] < points[i][u] * points[j][t]) {
                    return 10 * t + u;
                }
            }
        }
        return -5;
    }

    public int told(int what) {
        int none = 0;
        for (int t = 0; t < things; t++) {
            none += division.first[t] < 0 ? 1 : 0;
        }
        int envious = 0;
        for (int p = 0; p < n; p++) {
            envious += envied(p) >= 0 ? 1 << p : 0;
        }
        switch (what) {
            case 0: return n;
            case 1: return things;
            case 2: return division.cutThing() < 0 ? 0 : 1;
            case 3: return none;
            case 4: return envious;
            case 5: return poorestOf(fairestWay());
            default: return NONE;
        }
    }

    private Part leastOf(int[] way) {
        Part least = null;
        for (int p = 0; p < n; p++) {
            Part share = ownShare(way, p);
            least = least == null || share.compareTo(least) < 0 ? share : least;
        }
        return least;
    }

    private Part ownShare(int[] way, int p) {
        int own = 0;
        for (int t = 0; t < things; t++) {
            own += way[t] == p ? points[p][t] : 0;
        }
        return allOf(p) == 0 ? Part.ONE : Part.of(own, allOf(p));
    }

    private int poorestOf(int[] way) {
        for (int p = 0; p < n; p++) {
            if (ownShare(way, p).equals(leastOf(way))) {
                return p;
            }
        }
        return -1;
    }

    private int[] fairestWay() {
        int[] best = null;
        Part most = null;
        int ways = (int) Math.pow(n, things);
        for (int w = 0; w < ways; w++) {
            int[] way = new int[things];
            int rest = w;
            for (int t = things - 1; t >= 0; t--) {
                way[t] = rest % n;
                rest /= n;
            }
            Part least = leastOf(way);
            if (most == null || least.compareTo(most) > 0) {
                most = least;
                best = way;
            }
        }
        return best;
    }

    public int all(int p) {
        return noParty(p) ? NONE : allOf(p);
    }

    public int adjusted(int i, int j, int what) {
        if (noTwo(i, j) || what < 0 || what > 4) {
            return NONE;
        }
        Split s = adjust(i, j);
        if (s == null) {
            return STATE;
        }
        return new int[] {s.cutThing(), bits(i, s), bits(j, s), moved, rich}[what];
    }

    public long alike(int i, int j, int part) {
        Split s = noTwo(i, j) || noPart(part) ? null : adjust(i, j);
        return s == null ? PointShares.NO : shareOf(j, j, s).shown(part);
    }

    public long parted(int i, int j, int part) {
        Split s = noTwo(i, j) || noPart(part) ? null : adjust(i, j);
        return s == null ? PointShares.NO : poorPart.shown(part);
    }

    public int ratio(int i, int j, int k) {
        return noTwo(i, j) || k < 0 || k >= things ? NONE : byRatio(i, j).get(k);
    }

    public int fair(int t) {
        return noThing(t) ? NONE : fairestWay()[t];
    }

    public long fairest(int part) {
        return noPart(part) ? PointShares.NO : leastOf(fairestWay()).shown(part);
    }

    public int see(int t, int party) {
        if (t == -1) {
            seen = new ArrayList<>();
            return 0;
        }
        if (noThing(t)) {
            return NONE;
        }
        return party < 0 || party > 1 ? BAD : add(seen, 5, t, party);
    }

    private static int add(List<int[]> list, int most, int a, int b) {
        if (list.size() == most) {
            return FULL;
        }
        list.add(new int[] {a, b});
        return list.size();
    }

    public int fits(int party, int t, int what) {
        if (party < 0 || party > 1 || noThing(t) || what < 0 || what > 1) {
            return NONE;
        }
        List<Integer> fit = new ArrayList<>();
        int was = points[party][t];
        for (int v = 0; v <= 20; v++) {
            points[party][t] = v;
            Split s = adjust(0, 1);
            if (s != null && seen.stream().allMatch(r -> s.has[r[1]][r[0]].compareTo(Part.ZERO) > 0)) {
                fit.add(v);
            }
        }
        points[party][t] = was;
        return what == 0 ? fit.size() : fit.isEmpty() ? -5 : fit.get(0);
    }

    public long odds(int t, int part) {
        if (noThing(t) || noPart(part)) {
            return PointShares.NO;
        }
        int many = 0;
        int was = points[0][t];
        for (int v = 1; v <= 10; v++) {
            points[0][t] = v;
            Split s = adjust(0, 1);
            many += s != null && s.second[t] >= 0 ? 1 : 0;
        }
        points[0][t] = was;
        return Part.of(many, 10).shown(part);
    }

    public long mean(int p, int part) {
        return noParty(p) || noPart(part) || things == 0 ? PointShares.NO : Part.of(allOf(p), things).shown(part);
    }

    public int event(int what, int m) {
        if (what == -1) {
            events = new ArrayList<>();
            return 0;
        }
        if (what < 0 || what > 3 || what != 3 && noThing(m)) {
            return NONE;
        }
        return what == 3 && (m < 0 || m > 99) ? BAD : add(events, 8, what, m);
    }

    public long after(int what) {
        if (what < 0 || what > 2) {
            return PointShares.NO;
        }
        int[][] was = points;
        points = Arrays.stream(was).map(int[]::clone).toArray(int[][]::new);
        for (int[] e : events) {
            if (e[0] == 3) {
                for (int[] row : points) {
                    Arrays.setAll(row, t -> row[t] < e[1] ? 0 : row[t]);
                }
            } else if (e[0] == 2) {
                for (int[] row : points) {
                    row[e[1]] = 0;
                }
            } else {
                points[e[0]][e[1]] = 0;
            }
        }
        Split s = adjust(0, 1);
        long answer = s == null ? PointShares.NO : what == 2 ? s.cutThing() : shareOf(0, 0, s).shown(what);
        points = was;
        return answer;
    }

    public int book(int t, int party) {
        if (t == -1) {
            book = new ArrayList<>();
            return 0;
        }
        return no(party, t) ? NONE : add(book, 8, t, party);
    }

    public int looked() {
        for (int[] r : book) {
            if (division.has[r[1]][r[0]].equals(Part.ZERO)) {
                return book.indexOf(r);
            }
        }
        return -5;
    }

    public int judge(int tape, int i) {
        if (tape < 0 || tape > 5) {
            return NONE;
        }
        if (sorts[tape] >= 0 && sorts[tape] != 3) {
            return -12;
        }
        if (things == 0) {
            return -5;
        }
        if (sorts[tape] < 0 || i < 0) {
            return 100;
        }
        for (int t = 0; t < things; t++) {
            if ((long) i + t >= tapes[tape].length) {
                return 100 + t;
            }
            if (tapes[tape][i + t] != (division.first[t] < 0 ? -1 : division.first[t])) {
                return t;
            }
        }
        return -5;
    }

    private void take(PlainShares o) {
        n = o.n;
        things = o.things;
        points = Arrays.stream(o.points).map(int[]::clone).toArray(int[][]::new);
        division = o.division.copy();
        seen = new ArrayList<>(o.seen);
        events = new ArrayList<>(o.events);
        book = new ArrayList<>(o.book);
    }

    public int image() {
        kept = new PlainShares();
        kept.take(this);
        return things;
    }

    public int undo() {
        if (kept == null) {
            return STATE;
        }
        take(kept);
        return things;
    }

    public int count(int what) {
        return what < 0 || what > 3 ? BAD : new int[] {seen.size(), events.size(), book.size(), text.length()}[what];
    }

    public int tape(int tape, int sort, int m) {
        if (tape < 0 || tape > 5) {
            return NONE;
        }
        if (sort == -1) {
            sorts[tape] = -1;
            tapes[tape] = null;
            return 1;
        }
        if (sort < -1 || sort > 4 || m > 60) {
            return BAD;
        }
        if (m < 0) {
            return -14;
        }
        sorts[tape] = sort;
        tapes[tape] = new long[m];
        return 1;
    }

    public int item(int tape, int i, long v) {
        if (tape < 0 || tape > 5) {
            return NONE;
        }
        if (tapes[tape] == null) {
            return -11;
        }
        if (i < 0 || i >= tapes[tape].length) {
            return -13;
        }
        long[] kinds = {(byte) v, (short) v, (int) v, v, v == 0 ? 0 : 1};
        tapes[tape][i] = kinds[sorts[tape]];
        return 1;
    }

    public long peek(int tape, int i) {
        boolean none = tape < 0 || tape > 5 || tapes[tape] == null || i < 0 || i >= tapes[tape].length;
        return none ? PointShares.NO : tapes[tape][i];
    }

    public int shift(int tape, int i, int other, int j, int m) {
        if (tape < 0 || tape > 5 || other < 0 || other > 5) {
            return NONE;
        }
        if (tapes[tape] == null || tapes[other] == null) {
            return -11;
        }
        if (sorts[tape] != sorts[other]) {
            return -12;
        }
        boolean beyond = (long) i + m > tapes[tape].length || (long) j + m > tapes[other].length;
        if (m < 0 || i < 0 || j < 0 || beyond) {
            return -13;
        }
        long[] before = tapes[tape].clone();
        for (int k = 0; k < m; k++) {
            tapes[other][j + k] = before[i + k];
        }
        return m;
    }
}
