import java.util.Arrays;

/**
 * Each call with all arguments at and around their bounds, each with each, in several states: PointShares and
 * PlainShares must answer alike, so that of several refusals the right one goes ahead.
 */
public final class GridTest {
    private static final int MAX = Integer.MAX_VALUE, MIN = Integer.MIN_VALUE;
    private static final int[] PARTY = {MIN, -2, -1, 0, 1, 2, 3, 4, MAX};
    private static final int[] THING = {MIN, -2, -1, 0, 1, 2, 3, 5, 6, MAX};
    private static final int[] POINTS = {MIN, -1, 0, 1, 50, 98, 99, 100, MAX};
    private static final int[] PART = {MIN, -1, 0, 1, 2, MAX};
    private static final int[] WHAT = {MIN, -2, -1, 0, 1, 2, 3, 4, 5, 6, MAX};
    private static final int[] TAPE = {MIN, -1, 0, 1, 2, 5, 6, MAX};
    private static final int[] PLACE = {MIN, -1, 0, 1, 2, 3, 59, 60, MAX};
    private static final int[] FEW = {-1, 0, 2, 3, MAX};
    private static final int[] SIZE = {MIN, -1, 0, 1, 59, 60, 61, MAX};
    private static final int[] SIGN = {MIN, -1, 0, 47, 48, 57, 58, 59, 115, 116, 126, 127, 128, 255, MAX};

    private final String[] state;
    private final String name;
    private final int[][] values;
    private final Object[] arguments;

    private GridTest(String[] state, String name, int[]... values) {
        this.state = state;
        this.name = name;
        this.values = values;
        arguments = new Object[values.length];
    }

    public static void main(String[] args) {
        String[][] states = {{}, {"things 1"}, {"things 3", "split"}, {"four", "things 6", "split", "full"},
            {"four", "things 6", "full", "image", "two", "things 2"}, {"things 3", "settle", "image", "full", "undo"},
            {"things 2", "tapes"}, {"tapes"}};
        for (String[] state : states) {
            Check.about("behind " + String.join(", ", state));
            parties(state);
            division(state);
            asked(state);
            rows(state);
            tapes(state);
        }
        Check.end("GridTest");
    }

    private static void grid(String[] state, String name, int[]... values) {
        new GridTest(state, name, values).from(0);
    }

    private static void parties(String[] state) {
        grid(state, "parties", WHAT);
        grid(state, "thing");
        grid(state, "point", PARTY, THING, POINTS);
        grid(state, "of", PARTY, THING);
        grid(state, "hold", THING, PARTY);
        grid(state, "split", THING, PARTY, POINTS, POINTS);
        grid(state, "settle", PARTY, PARTY);
        grid(state, "feed", SIGN);
        grid(state, "read");
    }

    private static void division(String[] state) {
        grid(state, "holder", THING, PART);
        grid(state, "held", PARTY, THING, PART);
        grid(state, "share", PARTY, PARTY, PART);
        grid(state, "claim", PARTY, WHAT);
        grid(state, "better", PARTY, PARTY);
        grid(state, "told", WHAT);
        grid(state, "all", PARTY);
    }

    private static void asked(String[] state) {
        grid(state, "adjusted", PARTY, PARTY, WHAT);
        grid(state, "alike", PARTY, PARTY, PART);
        grid(state, "parted", PARTY, PARTY, PART);
        grid(state, "ratio", PARTY, PARTY, THING);
        grid(state, "fair", THING);
        grid(state, "fairest", PART);
        grid(state, "fits", PARTY, THING, PART);
        grid(state, "odds", THING, PART);
        grid(state, "mean", PARTY, PART);
    }

    private static void rows(String[] state) {
        grid(state, "see", THING, PARTY);
        grid(state, "event", WHAT, POINTS);
        grid(state, "event", WHAT, THING);
        grid(state, "after", WHAT);
        grid(state, "book", THING, PARTY);
        grid(state, "looked");
        grid(state, "image");
        grid(state, "undo");
        grid(state, "count", WHAT);
    }

    private static void tapes(String[] state) {
        grid(state, "judge", TAPE, PLACE);
        grid(state, "tape", TAPE, WHAT, SIZE);
        grid(state, "peek", TAPE, PLACE);
        grid(state, "item", TAPE, PLACE, SIGN);
        grid(state, "shift", TAPE, FEW, TAPE, FEW, FEW);
    }

    /** The arguments from this one on, each with each. */
    private void from(int k) {
        if (k == values.length) {
            both();
            return;
        }
        for (int v : values[k]) {
            arguments[k] = Calls.types(name)[k] == long.class ? (Object) (long) v : (Object) v;
            from(k + 1);
        }
    }

    private void both() {
        PointShares x = new PointShares();
        PlainShares y = new PlainShares();
        for (String step : state) {
            make(x, step);
            make(y, step);
        }
        String call = name + Arrays.toString(arguments);
        Check.due(call, Calls.answer(x, name, arguments), Calls.answer(y, name, arguments));
        Check.due(call + " once more", Calls.answer(x, name, arguments), Calls.answer(y, name, arguments));
        for (int what = 0; what < 5; what++) {
            Check.due(call + ", then told(" + what + ")", Calls.answer(x, "told", what), Calls.answer(y, "told", what));
        }
        for (int what = 0; what < 4; what++) {
            Check.due(call + ", then count(" + what + ")", Calls.answer(x, "count", what), Calls.answer(y, "count", what));
        }
    }

    private static void make(Object x, String step) {
        switch (step.split(" ")[0]) {
            case "four": Calls.answer(x, "parties", 4); break;
            case "two": Calls.answer(x, "parties", 2); break;
            case "things": makeThings(x, Integer.parseInt(step.split(" ")[1])); break;
            case "split": Calls.answer(x, "hold", 1, 0); Calls.answer(x, "split", 1, 1, 2, 6); break;
            case "settle": Calls.answer(x, "settle", 1, 0); break;
            case "full": fill(x); break;
            case "tapes": makeTapes(x); break;
            default: Calls.answer(x, step);
        }
    }

    private static void makeThings(Object x, int many) {
        for (int t = 0; t < many; t++) {
            Calls.answer(x, "thing");
            for (int p = 0; p < 4; p++) {
                Calls.answer(x, "point", p, t, (7 * p + 5 * t + p * t) % 11);
            }
        }
        Calls.answer(x, "hold", 0, 1);
        Calls.answer(x, "hold", 2, 0);
    }

    private static void fill(Object x) {
        for (int k = 0; k < 8; k++) {
            Calls.answer(x, "see", 0, k % 2);
            Calls.answer(x, "event", 3, k);
            Calls.answer(x, "book", 0, k < 7 ? 1 : 0);
        }
        for (int k = 0; k < 100; k++) {
            Calls.answer(x, "feed", k == 3 ? 'n' + 0 : k % 2 == 0 ? 't' + 0 : ';' + 0);
        }
    }

    /** 0 of three longs, 1 of no long, 2 of 60 longs, 5 of three bytes. */
    private static void makeTapes(Object x) {
        Calls.answer(x, "tape", 0, 3, 3);
        Calls.answer(x, "item", 0, 0, 1L);
        Calls.answer(x, "item", 0, 1, -1L);
        Calls.answer(x, "tape", 1, 3, 0);
        Calls.answer(x, "tape", 2, 3, 60);
        Calls.answer(x, "tape", 5, 0, 3);
    }
}
