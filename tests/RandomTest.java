import java.util.Arrays;
import java.util.Random;

/** Runs of random calls, the same ones each time: PointShares and PlainShares must answer alike. */
public final class RandomTest {
    /** The calls, with the kind of each argument; those in front come oftener. */
    private static final String[] CALLS = {
        "point party thing points", "point party thing points", "point party thing points", "point party thing points",
        "thing", "thing", "hold thing party", "hold thing party", "split thing party points points",
        "split thing party few more", "settle party party", "settle party party", "set", "set", "feed sign", "read",
        "parties parties", "of party thing", "holder thing few", "held party thing part", "share party party part",
        "claim party few", "claim party few", "better party party", "told what", "told what", "all party",
        "adjusted party party what", "adjusted party party what", "alike party party part", "parted party party part",
        "ratio party party thing", "fair thing", "fairest part", "see thing pair", "fits pair thing part",
        "odds thing part", "mean party part", "event what number", "event what thing", "after few", "book thing party",
        "looked", "judge tape place", "told_judge", "image", "undo", "count few", "tape tape sort length",
        "item tape place value", "item tape place value", "peek tape place", "shift tape place tape place length"};
    private static final int RUNS = 4000, LENGTH = 150;

    private final Random random;
    private final PointShares x = new PointShares();
    private final PlainShares y = new PlainShares();
    private final StringBuilder told = new StringBuilder();
    /** Points of a run are small in some runs, so that shares are alike oftener. */
    private final int mostPoints;
    private int calls;

    private RandomTest(long seed) {
        random = new Random(seed);
        mostPoints = new int[] {2, 4, 12, 100}[random.nextInt(4)];
    }

    public static void main(String[] args) {
        for (int run = 0; run < RUNS; run++) {
            Check.about("random run " + run);
            new RandomTest(run).go();
        }
        Check.end("RandomTest");
    }

    private void go() {
        both("parties", 2 + random.nextInt(3));
        int things = random.nextInt(7);
        for (int t = 0; t < things; t++) {
            both("thing");
            for (int p = 0; p < 4; p++) {
                both("point", p, t, argument("points"));
            }
        }
        for (int k = 0; k < LENGTH; k++) {
            String[] call = CALLS[random.nextInt(CALLS.length)].split(" ");
            if (call[0].equals("set")) {
                setUp();
            } else if (call[0].equals("told_judge")) {
                tellHolders();
            } else if (!call[0].equals("parties") || random.nextInt(4) == 0) {
                Object[] arguments = new Object[call.length - 1];
                for (int a = 0; a < arguments.length; a++) {
                    arguments[a] = argument(call[a + 1]);
                }
                both(call[0], arguments);
            }
        }
    }

    private Object argument(String kind) {
        if (random.nextInt(60) == 0) {
            int[] odd = {-1, -2, Integer.MAX_VALUE, Integer.MIN_VALUE, 100, 4, 6};
            int number = odd[random.nextInt(odd.length)];
            return kind.equals("value") ? (Object) (long) number : (Object) number;
        }
        switch (kind) {
            case "party": return random.nextInt(12) == 0 ? -1 + random.nextInt(6) : random.nextInt(3);
            case "thing": return random.nextInt(30) == 0 ? -1 : random.nextInt(6);
            case "points": return random.nextInt(mostPoints);
            case "number": return random.nextInt(mostPoints);
            case "few": return random.nextInt(4);
            case "more": return 2 + random.nextInt(9);
            case "what": return random.nextInt(6);
            case "part": return random.nextInt(2);
            case "pair": return random.nextInt(2);
            case "parties": return 1 + random.nextInt(4);
            case "sign": return random.nextInt(4) > 0 ? "ntphs;0123".charAt(random.nextInt(10)) + 0 : random.nextInt(128);
            case "tape": return random.nextInt(20) == 0 ? 6 : random.nextInt(4);
            case "sort": return random.nextInt(2) == 0 ? 3 : random.nextInt(7) - 1;
            case "place": return random.nextInt(9) - 1;
            case "length": return random.nextInt(8);
            default: return random.nextInt(3) == 0 ? random.nextLong() : (long) random.nextInt(5) - 1;
        }
    }

    private void setUp() {
        both("read");
        StringBuilder text = new StringBuilder();
        int clauses = random.nextInt(20) == 0 ? 13 + random.nextInt(3) : 1 + random.nextInt(6);
        for (int k = 0; k < clauses; k++) {
            text.append(k > 0 ? ";" : "").append(clause());
        }
        if (random.nextInt(3) == 0) {
            int at = random.nextInt(text.length());
            if (random.nextBoolean()) {
                text.setCharAt(at, "ntphs; 059:/".charAt(random.nextInt(12)));
            } else {
                text.deleteCharAt(at);
            }
        }
        for (int k = 0; k < text.length(); k++) {
            both("feed", text.charAt(k) + 0);
        }
        both("read");
    }

    private String clause() {
        int i = random.nextInt(3);
        int t = random.nextInt(7);
        switch (random.nextInt(12)) {
            case 0: return "n" + (1 + random.nextInt(4));
            case 1: return "t";
            case 2: case 3: return "h" + t + i;
            case 4: case 5: return "s" + i + random.nextInt(3);
            default: return "p" + i + t + random.nextInt(mostPoints);
        }
    }

    /** A row of longs that tells the holders, or all but one. */
    private void tellHolders() {
        int place = random.nextInt(3);
        int length = random.nextInt(9);
        both("tape", 0, 3, length);
        for (int k = place; k < length; k++) {
            long holder = y.holder(k - place, 0);
            both("item", 0, k, holder == -5 || random.nextInt(15) == 0 ? -1L : holder);
        }
        both("judge", 0, place);
    }

    /** Not beyond the 512 calls for which an object is used. */
    private void both(String name, Object... arguments) {
        calls++;
        if (calls > 512) {
            return;
        }
        long got = Calls.answer(x, name, arguments);
        long want = Calls.answer(y, name, arguments);
        String call = name + Arrays.toString(arguments);
        told.append(call).append(" = ").append(want).append("; ");
        Check.due(got == want ? call : told + ": " + call, got, want);
    }
}
