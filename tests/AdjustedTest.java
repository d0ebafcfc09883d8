/** Promises 18 to 23: adjusted, fairest. */
public final class AdjustedTest {
    public static void main(String[] args) {
        splitOne();
        moveMany();
        none();
        refusals();
        ratio();
        fairest();
        fairestEdges();
        Check.end("AdjustedTest");
    }

    private static void adjusted(PointShares x, int i, int j, int... want) {
        for (int what = 0; what < 5; what++) {
            Check.due("adjusted(" + i + ", " + j + ", " + what + ")", x.adjusted(i, j, what), want[what]);
        }
    }

    private static void alike(PointShares x, int i, int j, long up, long low) {
        Check.promise(19, "alike");
        Check.fraction("alike(" + i + ", " + j + ")", x.alike(i, j, 0), x.alike(i, j, 1), up, low);
    }

    private static void parted(PointShares x, int i, int j, long up, long low) {
        Check.promise(20, "parted");
        Check.fraction("parted(" + i + ", " + j + ")", x.parted(i, j, 0), x.parted(i, j, 1), up, low);
        Check.promise(18, "adjusted");
    }

    private static void splitOne() {
        Check.promise(18, "adjusted");
        PointShares x = Check.setUp(3, Check.row(6, 1, 5), Check.row(67, 34, 5), Check.row(27, 65, 0));
        // 0 has 0 and 1 (73 by 100), 1 has 2 (65): 1 is 67 by 34, 0 is 6 by 1
        adjusted(x, 0, 1, 1, 3, 6, 0, 0);
        alike(x, 0, 1, 6837, 10100);
        parted(x, 0, 1, 8, 101);
        adjusted(x, 1, 0, 1, 6, 3, 0, 0);
        parted(x, 1, 0, 8, 101);
        PointShares both = Check.setUp(2, Check.row(40, 30), Check.row(30, 40), Check.row(30, 30));
        // the last one is alike to both: who is named first has it at first
        adjusted(both, 0, 1, 2, 5, 6, 0, 0);
        alike(both, 0, 1, 11, 20);
        parted(both, 0, 1, 1, 2);
        adjusted(both, 1, 0, 2, 6, 5, 0, 1);
        PointShares unlike = Check.setUp(2, Check.row(2, 10), Check.row(4, 10));
        // 2 by 6 is below 10 by 20, 4 by 6 above
        adjusted(unlike, 0, 1, 1, 2, 3, 0, 0);
        alike(unlike, 0, 1, 4, 7);
        parted(unlike, 0, 1, 1, 7);
    }

    private static void moveMany() {
        Check.promise(18, "adjusted: moved");
        PointShares x = Check.setUp(2, Check.row(10, 9), Check.row(10, 9), Check.row(10, 9), Check.row(10, 9),
            Check.row(10, 9), Check.row(0, 5));
        // 50 by 50 is 0's, 5 by 50 is 1's: 0 and 1 go over, 2 is split
        adjusted(x, 0, 1, 2, 0x1c, 0x27, 2, 0);
        adjusted(x, 1, 0, 2, 0x27, 0x1c, 2, 0);
        alike(x, 0, 1, 10, 19);
        parted(x, 0, 1, 7, 19);
        PointShares even = Check.setUp(2, Check.row(30, 20), Check.row(30, 20), Check.row(30, 20), Check.row(0, 20),
            Check.row(0, 0), Check.row(10, 20));
        // behind 0, which goes over, both have alike: 60 of 100 each
        adjusted(even, 0, 1, -5, 0x16, 0x29, 1, 0);
        alike(even, 0, 1, 3, 5);
        parted(even, 0, 1, 0, 1);
        PointShares last = Check.setUp(2, Check.row(0, 0), Check.row(90, 0), Check.row(10, 30), Check.row(5, 0));
        // 0 has 95 of 105, 1 all of its points: its only thing is split
        adjusted(last, 0, 1, 2, 0xf, 0x4, 0, 1);
        parted(last, 0, 1, 2, 23);
        last.point(0, 2, 0);
        last.point(0, 1, 40);
        last.point(0, 0, 55);
        last.point(1, 0, 2);
        // 1 has 30 of 32, 0 has 100 of 100: thing 0 first, for it is worth something to 1
        adjusted(last, 0, 1, 0, 0xb, 0x5, 0, 0);
        parted(last, 0, 1, 5, 49);
        last.point(1, 0, 0);
        adjusted(last, 0, 1, -5, 0xb, 0x4, 0, -5);
        parted(last, 0, 1, 0, 1);
        PointShares close = Check.setUp(2, Check.row(4, 1), Check.row(1, 3));
        // 4 by 5 is above 3 by 4 by as little as can be
        adjusted(close, 0, 1, 0, 1, 3, 0, 0);
        adjusted(close, 1, 0, 0, 3, 1, 0, 0);
        alike(close, 0, 1, 16, 21);
        parted(close, 0, 1, 1, 21);
        parted(close, 1, 0, 1, 21);
    }

    private static void none() {
        Check.promise(18, "adjusted: alike at once");
        PointShares x = Check.setUp(4, Check.row(60, 40, 0, 9), Check.row(40, 60, 0, 0));
        adjusted(x, 0, 1, -5, 1, 2, 0, -5);
        adjusted(x, 1, 0, -5, 2, 1, 0, -5);
        alike(x, 0, 1, 3, 5);
        parted(x, 0, 1, 0, 1);
        adjusted(x, 3, 1, 0, 1, 3, 0, 3);
        adjusted(x, 0, 2, -3, -3, -3, -3, -3);
        adjusted(x, 2, 3, -3, -3, -3, -3, -3);
        Check.due("alike(0, 2, 0)", x.alike(0, 2, 0), Check.NO);
        Check.due("alike(2, 0, 1)", x.alike(2, 0, 1), Check.NO);
        Check.due("parted(0, 2, 0)", x.parted(0, 2, 0), Check.NO);
        Check.due("parted(2, 0, 1)", x.parted(2, 0, 1), Check.NO);
    }

    private static void refusals() {
        Check.promise(18, "adjusted: refusals");
        PointShares x = Check.setUp(3, Check.row(60, 40, 0));
        int[][] wrong = {{0, 0, 0}, {0, 3, 0}, {3, 0, 0}, {-1, 0, 0}, {0, -1, 0}, {0, 1, 5}, {0, 1, -1}, {0, 2, 5}};
        for (int[] w : wrong) {
            Check.due("adjusted" + java.util.Arrays.toString(w), x.adjusted(w[0], w[1], w[2]), -1);
        }
        for (int[] w : new int[][] {{0, 0, 0}, {0, 3, 0}, {3, 0, 0}, {-1, 0, 0}, {0, 1, 2}, {0, 1, -1}}) {
            Check.promise(19, "alike: refusals");
            Check.due("alike" + java.util.Arrays.toString(w), x.alike(w[0], w[1], w[2]), Check.NO);
            Check.promise(20, "parted: refusals");
            Check.due("parted" + java.util.Arrays.toString(w), x.parted(w[0], w[1], w[2]), Check.NO);
        }
        Check.promise(18, "adjusted changes nothing");
        Check.due("holder(0, 0)", x.holder(0, 0), -5);
    }

    private static void ratio() {
        Check.promise(21, "ratio");
        PointShares x = Check.setUp(3, Check.row(8, 4, 0), Check.row(0, 0, 0), Check.row(3, 3, 0), Check.row(6, 6, 0),
            Check.row(9, 0, 0), Check.row(0, 1, 0));
        int[] want = {5, 2, 3, 0, 1, 4};
        for (int k = 0; k < 6; k++) {
            Check.due("ratio(0, 1, " + k + ")", x.ratio(0, 1, k), want[k]);
            Check.due("ratio(0, 2, " + k + "): by number alone", x.ratio(0, 2, k), k);
        }
        int[] back = {4, 0, 2, 3, 1, 5};
        for (int k = 0; k < 6; k++) {
            Check.due("ratio(1, 0, " + k + ")", x.ratio(1, 0, k), back[k]);
        }
        Check.due("ratio(0, 1, 6)", x.ratio(0, 1, 6), -1);
        Check.due("ratio(0, 1, -1)", x.ratio(0, 1, -1), -1);
        Check.due("ratio(0, 0, 0)", x.ratio(0, 0, 0), -1);
        Check.due("ratio(3, 0, 0)", x.ratio(3, 0, 0), -1);
        Check.due("ratio(0, -1, 0)", x.ratio(0, -1, 0), -1);
    }

    private static void fairest() {
        PointShares x = Check.setUp(2, Check.row(50, 40), Check.row(30, 30), Check.row(20, 30));
        // 0 for 0 and 1, 2 for both: 50 and 60 by 100
        int[] want = {0, 1, 1};
        Check.promise(22, "fair");
        for (int t = 0; t < 3; t++) {
            Check.due("fair(" + t + ")", x.fair(t), want[t]);
        }
        Check.due("fair(3)", x.fair(3), -1);
        Check.due("fair(-1)", x.fair(-1), -1);
        Check.promise(23, "fairest");
        Check.fraction("fairest", x.fairest(0), x.fairest(1), 1, 2);
        Check.due("fairest(2)", x.fairest(2), Check.NO);
        Check.due("fairest(-1)", x.fairest(-1), Check.NO);
        Check.promise(23, "fairest changes nothing");
        Check.due("holder(0, 0)", x.holder(0, 0), -5);
    }

    private static void fairestEdges() {
        Check.promise(23, "fairest: edges");
        PointShares x = new PointShares();
        Check.fraction("fairest without things", x.fairest(0), x.fairest(1), 1, 1);
        PointShares one = Check.setUp(3, Check.row(4, 4, 4));
        Check.fraction("fairest of one thing", one.fairest(0), one.fairest(1), 0, 1);
        Check.due("fair(0): the first of several", one.fair(0), 0);
        one.point(0, 0, 0);
        one.point(1, 0, 0);
        Check.fraction("fairest, one gives points", one.fairest(0), one.fairest(1), 1, 1);
        Check.due("fair(0)", one.fair(0), 2);
        PointShares same = Check.setUp(4, Check.row(1, 1, 1, 1), Check.row(1, 1, 1, 1), Check.row(1, 1, 1, 1),
            Check.row(1, 1, 1, 1), Check.row(1, 1, 1, 1));
        int[] rows = {0, 0, 1, 2, 3};
        for (int t = 0; t < 5; t++) {
            Check.due("fair(" + t + ") of like rows", same.fair(t), rows[t]);
        }
        Check.fraction("fairest of like rows", same.fairest(0), same.fairest(1), 1, 5);
    }
}
