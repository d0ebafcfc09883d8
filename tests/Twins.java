import java.util.ArrayList;
import java.util.List;

/** Two objects that ought to be alike: all that can be asked is asked of both, THE TEXT and THE IMAGE last. */
final class Twins {
    private Twins() {
    }

    /** How many calls were made of each, about: behind this both are used up. */
    static int areAlike(String when, PointShares one, PointShares other) {
        List<String> calls = new ArrayList<>();
        List<Long> got = look(one, calls);
        List<Long> want = look(other, new ArrayList<>());
        Check.due(when + ": how much there is to look at", got.size(), want.size());
        for (int k = 0; k < Math.min(got.size(), want.size()); k++) {
            Check.due(when + ": then " + calls.get(k), got.get(k), want.get(k));
        }
        return got.size() + 40;
    }

    private static List<Long> look(PointShares x, List<String> calls) {
        List<Long> list = new ArrayList<>();
        lookAtSetUp(x, calls, list);
        for (int what = 0; what < 4; what++) {
            add(calls, list, "count(" + what + ")", x.count(what));
        }
        for (int what = 0; what < 3; what++) {
            add(calls, list, "after(" + what + ")", x.after(what));
        }
        add(calls, list, "looked()", x.looked());
        int things = x.told(1);
        for (int t = 0; t < things; t++) {
            for (int p = 0; p < 2; p++) {
                add(calls, list, "fits(" + p + ", " + t + ", 0)", x.fits(p, t, 0));
                add(calls, list, "fits(" + p + ", " + t + ", 1)", x.fits(p, t, 1));
            }
        }
        for (int tape = 0; tape < 6; tape++) {
            lookAtTape(x, tape, calls, list);
        }
        add(calls, list, "read()", x.read());
        lookAtSetUp(x, calls, list);
        add(calls, list, "undo()", x.undo());
        lookAtSetUp(x, calls, list);
        return list;
    }

    private static void add(List<String> calls, List<Long> list, String call, long answer) {
        calls.add(call);
        list.add(answer);
    }

    private static void lookAtSetUp(PointShares x, List<String> calls, List<Long> list) {
        for (int what = 0; what < 5; what++) {
            add(calls, list, "told(" + what + ")", x.told(what));
        }
        int n = x.told(0);
        int things = x.told(1);
        for (int t = 0; t < things; t++) {
            add(calls, list, "holder(" + t + ", 0)", x.holder(t, 0));
            add(calls, list, "holder(" + t + ", 1)", x.holder(t, 1));
            int second = Math.max(x.holder(t, 1), 0);
            add(calls, list, "held(.., " + t + ", 0)", x.held(second, t, 0));
            add(calls, list, "held(.., " + t + ", 1)", x.held(second, t, 1));
            for (int p = 0; p < n; p++) {
                add(calls, list, "of(" + p + ", " + t + ")", x.of(p, t));
            }
        }
    }

    private static void lookAtTape(PointShares x, int tape, List<String> calls, List<Long> list) {
        int[] places = {0, 1, 2, 3, 4, 58, 59};
        for (int i : places) {
            add(calls, list, "peek(" + tape + ", " + i + ")", x.peek(tape, i));
        }
        // what is left of this number tells the sort; the refusal tells nothing from an empty row
        add(calls, list, "item(" + tape + ", 0, ..)", x.item(tape, 0, 0x1_8080_8081L));
        add(calls, list, "peek(" + tape + ", 0)", x.peek(tape, 0));
    }
}
