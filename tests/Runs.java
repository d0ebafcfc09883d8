import java.util.ArrayList;
import java.util.Arrays;
import java.util.HashSet;
import java.util.List;
import java.util.Set;

/**
 * Runs of calls on a new object, written as text: "point(0, 1, 99) = 0", several with " | " between them. Each run is
 * one sentence of the document, and is done in several ways: as it stands; behind parties and behind undo; each call
 * made twice, where the second answer can be told; and against a twin without what is asked or refused.
 *
 * <p>Several answers stand for as many calls, with 0, 1, .. as last argument: "held(1, 0) = 2/5" is held(1, 0, 0) = 2
 * and held(1, 0, 1) = 5. "things 5,6 7,8" are two things with the points that parties 0 and 1 give them. feed "t;t"
 * feeds sign by sign. "--" begins a remark.
 */
final class Runs {
    /** An object is used for so many calls: what it answers behind them is free. */
    private static final int MOST_CALLS = 512;
    private static final Set<String> CHANGING = Set.of("parties", "thing", "point", "hold", "split", "settle", "feed",
        "read", "see", "event", "book", "image", "undo", "tape", "item", "shift");
    private static final Set<String> BEYOND_PARTIES = Set.of("feed", "read", "image", "undo", "tape", "item", "shift");
    private static final Set<Long> REFUSALS = Set.of(-1L, -2L, -3L, -4L, -11L, -12L, -13L, -14L);

    /** A call and the answer that is due. */
    record Step(String name, Object[] arguments, long want) {
        String text() {
            String list = Arrays.toString(arguments);
            return name + "(" + list.substring(1, list.length() - 1) + ")";
        }

        boolean isRefused() {
            return !name.equals("read") && CHANGING.contains(name) && REFUSALS.contains(want);
        }

        boolean changesNothing() {
            return !CHANGING.contains(name) || isRefused();
        }

        private int argument(int k) {
            return (int) arguments[k];
        }

        /** What is due if it is made once more at once; null: that is something else than the same again. */
        Long wantAgain() {
            if (changesNothing()) {
                return want;
            }
            switch (name) {
                case "parties": return (long) argument(0);
                case "point": return (long) argument(2);
                case "hold": return argument(1) == -1 ? -5L : argument(1);
                case "read": return -10L;
                case "see": case "event": case "book": return argument(0) == -1 ? 0L : null;
                case "shift": return argument(0) != argument(2) ? want : null;
                case "thing": case "feed": return null;
                default: return want;
            }
        }
    }

    private Runs() {
    }

    /** One sentence of a promise. */
    static void run(int promise, String sentence, String text) {
        List<Step> steps = read(text);
        Set<String> names = new HashSet<>();
        boolean hasNoImage = false;
        for (Step s : steps) {
            names.add(s.name);
            hasNoImage |= s.name.equals("undo") && s.want == -3;
        }
        String about = "promise " + promise + " (" + sentence + ")";
        Check.about(about);
        int wrong = Check.wrong();
        new User(new PointShares()).make(steps);
        if (Check.wrong() == wrong) {
            runAgain(about, steps, names, hasNoImage);
        }
    }

    /** The same at a second use. */
    private static void runAgain(String about, List<Step> steps, Set<String> names, boolean hasNoImage) {
        Check.about(about + ", behind parties");
        new User(usedUp(new PointShares(), false)).make(steps);
        if (!hasNoImage) {
            Check.about(about + ", behind undo");
            new User(usedUp(new PointShares(), true)).make(steps);
        }
        Check.about(about + ", each made twice");
        new User(new PointShares()).makeTwice(steps);
        names.retainAll(BEYOND_PARTIES);
        if (names.isEmpty()) {
            Check.about(about + ", the whole once more behind parties(2)");
            User u = new User(new PointShares());
            u.make(steps);
            u.x.parties(2);
            u.make(steps);
        }
        if (!names.contains("image") && !names.contains("undo")) {
            Check.about(about + ", behind undo in the midst");
            for (int k = 0; k < steps.size(); k++) {
                new User(new PointShares()).makeAroundUndo(steps, k);
            }
        }
        Check.about(about + ", what is asked or refused changes nothing");
        twins(steps);
    }

    /** Used for all that it can hold, and as new then, but for an image if it is wanted. */
    private static PointShares usedUp(PointShares x, boolean byUndo) {
        if (byUndo) {
            x.image();
        }
        fill(x);
        Check.feed(x, "t;h00");
        x.read();
        for (int tape = 0; tape < 6; tape++) {
            x.tape(tape, tape % 5, 60);
            x.item(tape, 0, 77);
            x.item(tape, 59, 77);
            x.tape(tape, -1, 0);
        }
        if (byUndo) {
            x.undo();
        } else {
            x.parties(2);
        }
        return x;
    }

    /** Four parties, six things, a thing split, all rows: what an image holds. */
    private static void fill(PointShares x) {
        x.parties(4);
        for (int t = 0; t < 6; t++) {
            x.thing();
            x.hold(t, t % 4);
            for (int p = 0; p < 4; p++) {
                x.point(p, t, 99 - 11 * t - p);
            }
        }
        x.split(2, 3, 5, 7);
        for (int k = 0; k < 8; k++) {
            x.see(k % 6, k % 2);
            x.event(k % 4, k % 6);
            x.book(k % 6, k % 4);
        }
    }

    /** An object, and how many calls were made of it by a run. */
    private static final class User {
        final PointShares x;
        /** What usedUp takes at most. */
        private int calls = 110;

        User(PointShares x) {
            this.x = x;
        }

        void make(Step s, long want) {
            calls++;
            Check.due("no run is too long: " + s.text(), calls <= MOST_CALLS ? 1 : 0, 1);
            Check.due(s.text(), answer(x, s), want);
        }

        void make(List<Step> steps) {
            for (Step s : steps) {
                make(s, s.want);
            }
        }

        void makeTwice(List<Step> steps) {
            for (Step s : steps) {
                make(s, s.want);
                Long again = s.wantAgain();
                if (again != null) {
                    make(s, again);
                }
            }
        }

        void makeAroundUndo(List<Step> steps, int at) {
            make(steps.subList(0, at));
            x.image();
            fill(x);
            x.undo();
            make(steps.subList(at, steps.size()));
        }
    }

    private static long answer(PointShares x, Step s) {
        return Calls.answer(x, s.name, s.arguments);
    }

    /** Ahead of each call that changes something, and at the end: as an object that was never asked or refused. */
    private static void twins(List<Step> steps) {
        for (int end = 0; end <= steps.size(); end++) {
            boolean isEnd = end == steps.size() || !steps.get(end).changesNothing();
            if (isEnd && end > 0 && steps.get(end - 1).changesNothing()) {
                PointShares asked = new PointShares();
                PointShares unasked = new PointShares();
                for (Step s : steps.subList(0, end)) {
                    answer(asked, s);
                    if (!s.changesNothing()) {
                        answer(unasked, s);
                    }
                }
                int calls = end + Twins.areAlike("up to " + steps.get(end - 1).text(), asked, unasked);
                Check.due("no run is too long", calls <= MOST_CALLS ? 1 : 0, 1);
            }
        }
    }

    // ---- reading of runs.

    private static List<Step> read(String text) {
        List<Step> steps = new ArrayList<>();
        for (String line : text.split("\n")) {
            for (String call : line.replaceAll("--.*", "").split(" \\| ")) {
                readCall(call.trim(), steps);
            }
        }
        return steps;
    }

    private static void readCall(String call, List<Step> steps) {
        if (call.isEmpty()) {
            return;
        }
        if (call.startsWith("things ")) {
            readThings(call.substring(7).trim().split(" +"), steps);
            return;
        }
        int is = call.lastIndexOf(" = ");
        String[] wants = call.substring(is + 3).trim().split("[ /]+");
        String head = call.substring(0, is).trim();
        if (head.startsWith("feed \"")) {
            String signs = head.substring(6, head.length() - 1);
            int first = (int) number(wants[0]) - signs.length();
            for (int k = 0; k < signs.length(); k++) {
                steps.add(step("feed", List.of("" + (int) signs.charAt(k)), first + k + 1));
            }
            return;
        }
        int open = head.indexOf('(');
        String inside = head.substring(open + 1, head.length() - 1).trim();
        List<String> arguments = new ArrayList<>(inside.isEmpty() ? List.of() : List.of(inside.split(" *, *")));
        String name = head.substring(0, open);
        if (wants.length == 1) {
            steps.add(step(name, arguments, number(wants[0])));
            return;
        }
        for (int k = 0; k < wants.length; k++) {
            List<String> all = new ArrayList<>(arguments);
            all.add("" + k);
            steps.add(step(name, all, number(wants[k])));
        }
    }

    private static void readThings(String[] rows, List<Step> steps) {
        for (int t = 0; t < rows.length; t++) {
            steps.add(step("thing", List.of(), t));
            String[] points = rows[t].split(",");
            for (int p = 0; p < points.length; p++) {
                if (!points[p].equals("0")) {
                    steps.add(step("point", List.of("" + p, "" + t, points[p]), 0));
                }
            }
        }
    }

    private static Step step(String name, List<String> arguments, long want) {
        Class<?>[] types = Calls.types(name);
        if (types.length != arguments.size()) {
            throw new IllegalArgumentException(name + arguments);
        }
        Object[] values = new Object[types.length];
        for (int k = 0; k < types.length; k++) {
            long v = number(arguments.get(k));
            values[k] = types[k] == long.class ? (Object) v : (Object) Math.toIntExact(v);
        }
        return new Step(name, values, want);
    }

    private static long number(String word) {
        switch (word) {
            case "MAX": return Integer.MAX_VALUE;
            case "MIN": return Integer.MIN_VALUE;
            case "LMAX": return Long.MAX_VALUE;
            case "LMIN": case "NO": return Long.MIN_VALUE;
            default: return Long.decode(word);
        }
    }
}
