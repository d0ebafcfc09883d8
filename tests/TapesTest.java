/** Promises 32 to 39: judging, the image, tapes. */
public final class TapesTest {
    private static final int MOST = Integer.MAX_VALUE, LEAST = Integer.MIN_VALUE;

    public static void main(String[] args) {
        judge();
        judgeEdges();
        image();
        count();
        tape();
        itemAndPeek();
        itemsByTheirSort();
        shift();
        shiftRefusals();
        Check.end("TapesTest");
    }

    private static void put(PointShares x, int tape, int sort, long... items) {
        Check.due("tape(" + tape + ", " + sort + ")", x.tape(tape, sort, items.length), 1);
        for (int k = 0; k < items.length; k++) {
            Check.due("item(" + tape + ", " + k + ")", x.item(tape, k, items[k]), 1);
        }
    }

    private static void shows(PointShares x, int tape, long... items) {
        for (int k = 0; k < items.length; k++) {
            Check.due("peek(" + tape + ", " + k + ")", x.peek(tape, k), items[k]);
        }
        Check.due("peek behind the end", x.peek(tape, items.length), Check.NO);
    }

    private static void judge() {
        Check.promise(32, "judge");
        PointShares x = Check.setUp(3, Check.row(1, 1, 1), Check.row(2, 2, 2), Check.row(3, 3, 3));
        x.hold(0, 2);
        x.hold(1, 0);
        x.split(1, 1, 1, 2);
        put(x, 0, 3, 7, 2, 0, -1, 2, 0);
        Check.due("judge(0, 1)", x.judge(0, 1), -5);
        Check.due("judge(0, 0)", x.judge(0, 0), 0);
        Check.due("judge(0, 4): the row ends", x.judge(0, 4), 102);
        Check.due("judge(0, 5)", x.judge(0, 5), 0);
        Check.due("judge(0, 6)", x.judge(0, 6), 100);
        Check.due("judge(0, most)", x.judge(0, MOST), 100);
        Check.due("judge(0, -1)", x.judge(0, -1), 100);
        Check.due("judge(0, least)", x.judge(0, LEAST), 100);
        x.item(0, 3, 1);
        Check.due("judge(0, 1)", x.judge(0, 1), 2);
        x.item(0, 3, -5);
        Check.due("judge(0, 1)", x.judge(0, 1), 2);
        x.item(0, 3, -1);
        x.item(0, 2, 1);
        Check.due("judge(0, 1): only the first holder counts", x.judge(0, 1), 1);
        x.item(0, 2, 1L << 32);
        Check.due("judge(0, 1): all of a long counts", x.judge(0, 1), 1);
        put(x, 0, 3, 2);
        Check.due("judge(0, 0)", x.judge(0, 0), 101);
    }

    private static void judgeEdges() {
        Check.promise(32, "judge: edges");
        PointShares x = new PointShares();
        Check.due("judge(6, 0)", x.judge(6, 0), -1);
        Check.due("judge(-1, 0)", x.judge(-1, 0), -1);
        Check.due("judge(0, 0): no things", x.judge(0, 0), -5);
        Check.due("judge(0, -1): no things", x.judge(0, -1), -5);
        x.tape(0, 3, 0);
        Check.due("judge(0, 0): no things", x.judge(0, 0), -5);
        for (int sort : new int[] {0, 1, 2, 4}) {
            x.tape(1, sort, 3);
            Check.due("judge(1, 0): no things, CAST", x.judge(1, 0), -12);
        }
        x.thing();
        Check.due("judge(1, -1): CAST", x.judge(1, -1), -12);
        Check.due("judge(0, 0): an empty row", x.judge(0, 0), 100);
        Check.due("judge(5, 0): nothing there", x.judge(5, 0), 100);
        Check.due("judge(6, -1)", x.judge(6, -1), -1);
    }

    private static void image() {
        Check.promise(33, "image");
        PointShares x = Check.setUp(3, Check.row(1, 2, 3), Check.row(4, 5, 6));
        Check.due("undo()", x.undo(), -3);
        x.hold(0, 0);
        x.hold(1, 1);
        x.split(1, 2, 2, 3);
        x.see(1, 0);
        x.event(0, 1);
        x.book(1, 2);
        x.book(0, 0);
        x.feed('t');
        x.tape(0, 2, 2);
        Check.due("image()", x.image(), 2);
        x.parties(4);
        x.feed('t');
        x.item(0, 1, 8);
        x.thing();
        x.point(0, 0, 77);
        x.hold(0, 3);
        x.see(0, 1);
        x.see(0, 1);
        Check.promise(34, "undo");
        Check.due("undo()", x.undo(), 2);
        asItWas(x);
        x.point(0, 1, 9);
        x.hold(1, 0);
        x.hold(0, -1);
        x.see(-1, 0);
        x.event(-1, 0);
        x.book(-1, 0);
        x.book(1, 1);
        x.thing();
        Check.due("undo(): once more", x.undo(), 2);
        asItWas(x);
        Check.due("thing()", x.thing(), 2);
        Check.due("of(0, 2)", x.of(0, 2), 0);
        Check.due("image()", x.image(), 3);
        x.parties(2);
        Check.due("undo()", x.undo(), 3);
        Check.due("told(0)", x.told(0), 3);
        Check.due("image() of nothing", new PointShares().image(), 0);
    }

    private static void asItWas(PointShares x) {
        Check.due("told(0)", x.told(0), 3);
        Check.due("told(1)", x.told(1), 2);
        Check.due("of(0, 0)", x.of(0, 0), 1);
        Check.due("of(0, 1)", x.of(0, 1), 4);
        Check.due("of(2, 1)", x.of(2, 1), 6);
        Check.due("holder(0, 0)", x.holder(0, 0), 0);
        Check.due("holder(1, 0)", x.holder(1, 0), 1);
        Check.due("holder(1, 1)", x.holder(1, 1), 2);
        Check.fraction("held(2, 1)", x.held(2, 1, 0), x.held(2, 1, 1), 2, 3);
        Check.due("count(0)", x.count(0), 1);
        Check.due("count(1)", x.count(1), 1);
        Check.due("count(2)", x.count(2), 2);
        Check.due("looked()", x.looked(), -5);
        Check.due("count(3): THE TEXT stays", x.count(3), 2);
        Check.due("peek(0, 1): a TAPE stays", x.peek(0, 1), 8);
        // 1 and 0 of party 0, 2 and 5 of party 1: 0 has thing 0, 1 has thing 1
        Check.due("after(0)", x.after(0), 7);
        Check.due("after(1)", x.after(1), 9);
        Check.due("fits(0, 1, 0)", x.fits(0, 1, 0), 20);
    }

    private static void count() {
        Check.promise(35, "count");
        PointShares x = Check.setUp(2, Check.row(1, 1));
        x.see(0, 0);
        x.event(3, 1);
        x.event(3, 1);
        x.book(0, 0);
        x.book(0, 0);
        x.book(0, 0);
        for (int k = 0; k < 4; k++) {
            x.feed('x');
            Check.due("count(" + k + ")", x.count(k), k + 1);
        }
        Check.due("count(4)", x.count(4), -2);
        Check.due("count(-1)", x.count(-1), -2);
    }

    private static void tape() {
        Check.promise(36, "tape");
        PointShares x = new PointShares();
        Check.due("tape(6, 9, -1): NONE first", x.tape(6, 9, -1), -1);
        Check.due("tape(-1, 0, 0)", x.tape(-1, 0, 0), -1);
        Check.due("tape(0, 5, -1): BAD first", x.tape(0, 5, -1), -2);
        Check.due("tape(0, -2, 1)", x.tape(0, -2, 1), -2);
        Check.due("tape(0, 0, 61)", x.tape(0, 0, 61), -2);
        Check.due("tape(0, 4, -1)", x.tape(0, 4, -1), -14);
        Check.due("tape(0, 4, least)", x.tape(0, 4, LEAST), -14);
        Check.due("peek(0, 0)", x.peek(0, 0), Check.NO);
        for (int sort = 0; sort <= 4; sort++) {
            Check.due("tape(5, sort, 60)", x.tape(5, sort, 60), 1);
            Check.due("item(5, 59, 1)", x.item(5, 59, 1), 1);
            Check.due("item(5, 60, 1)", x.item(5, 60, 1), -13);
            Check.due("item(5, 0, 1)", x.item(5, 0, 1), 1);
            Check.due("tape(5, sort, 61): as it was", x.tape(5, sort, 61), -2);
            Check.due("tape(5, sort, -1): as it was", x.tape(5, sort, -1), -14);
            Check.due("peek(5, 59)", x.peek(5, 59), 1);
            Check.due("tape(5, sort, 60): all 0", x.tape(5, sort, 60), 1);
            Check.due("peek(5, 59)", x.peek(5, 59), 0);
            Check.due("peek(5, 0)", x.peek(5, 0), 0);
        }
        Check.due("tape(5, 0, 0)", x.tape(5, 0, 0), 1);
        Check.due("item(5, 0, 1): no place", x.item(5, 0, 1), -13);
        Check.due("tape(5, -1, -7)", x.tape(5, -1, -7), 1);
        Check.due("item(5, 0, 1): nothing", x.item(5, 0, 1), -11);
        Check.due("tape(5, -1, 99)", x.tape(5, -1, 99), 1);
        Check.due("peek(5, 0)", x.peek(5, 0), Check.NO);
    }

    private static void itemAndPeek() {
        Check.promise(37, "item");
        PointShares x = new PointShares();
        put(x, 3, 3, Long.MAX_VALUE, Long.MIN_VALUE, -1);
        shows(x, 3, Long.MAX_VALUE, Long.MIN_VALUE, -1);
        Check.due("item(6, 0, 1)", x.item(6, 0, 1), -1);
        Check.due("item(-1, 0, 1)", x.item(-1, 0, 1), -1);
        Check.due("item(2, -1, 1): NOTHING first", x.item(2, -1, 1), -11);
        Check.due("item(3, -1, 1)", x.item(3, -1, 1), -13);
        Check.due("item(3, 3, 1)", x.item(3, 3, 1), -13);
        Check.due("item(3, most, 1)", x.item(3, MOST, 1), -13);
        Check.promise(38, "peek");
        Check.due("peek(6, 0)", x.peek(6, 0), Check.NO);
        Check.due("peek(-1, 0)", x.peek(-1, 0), Check.NO);
        Check.due("peek(2, 0)", x.peek(2, 0), Check.NO);
        Check.due("peek(3, -1)", x.peek(3, -1), Check.NO);
        Check.due("peek(3, 3)", x.peek(3, 3), Check.NO);
        Check.due("peek(3, least)", x.peek(3, LEAST), Check.NO);
    }

    private static void itemsByTheirSort() {
        Check.promise(37, "item by its sort");
        PointShares x = new PointShares();
        put(x, 0, 0, 127, 128, 255, 256, -129, Long.MIN_VALUE);
        shows(x, 0, 127, -128, -1, 0, 127, 0);
        put(x, 0, 1, 32767, 32768, 65535, 65536, -32769, Long.MIN_VALUE);
        shows(x, 0, 32767, -32768, -1, 0, 32767, 0);
        put(x, 0, 2, MOST, MOST + 1L, (1L << 32) - 1, 1L << 32, LEAST - 1L, Long.MIN_VALUE);
        shows(x, 0, MOST, LEAST, -1, 0, MOST, 0);
        put(x, 0, 4, 0, 1, -1, 2, 1L << 32, Long.MIN_VALUE);
        shows(x, 0, 0, 1, 1, 1, 1, 1);
    }

    private static void shift() {
        Check.promise(39, "shift");
        PointShares x = new PointShares();
        put(x, 0, 2, 1, 2, 3, 4, 5);
        put(x, 1, 2, 10, 20, 30);
        Check.due("shift(0, 1, 1, 0, 2)", x.shift(0, 1, 1, 0, 2), 2);
        shows(x, 1, 2, 3, 30);
        shows(x, 0, 1, 2, 3, 4, 5);
        Check.due("shift(0, 0, 0, 1, 4): up", x.shift(0, 0, 0, 1, 4), 4);
        shows(x, 0, 1, 1, 2, 3, 4);
        Check.due("shift(0, 2, 0, 0, 3): down", x.shift(0, 2, 0, 0, 3), 3);
        shows(x, 0, 2, 3, 4, 3, 4);
        Check.due("shift(0, 5, 1, 3, 0): at both ends", x.shift(0, 5, 1, 3, 0), 0);
        Check.due("shift(0, 0, 0, 0, 5)", x.shift(0, 0, 0, 0, 5), 5);
        shows(x, 0, 2, 3, 4, 3, 4);
        shows(x, 1, 2, 3, 30);
        for (int sort = 0; sort <= 4; sort++) {
            put(x, 4, sort, 1, 0);
            put(x, 5, sort, 0, 0);
            Check.due("shift(4, 0, 5, 1, 1)", x.shift(4, 0, 5, 1, 1), 1);
            shows(x, 5, 0, 1);
        }
    }

    private static void shiftRefusals() {
        Check.promise(39, "shift: refusals");
        PointShares x = new PointShares();
        put(x, 0, 2, 1, 2, 3, 4, 5);
        put(x, 1, 2, 10, 20, 30);
        put(x, 2, 3, 1, 1, 1);
        Check.due("shift(6, 0, 3, 0, -1): NONE first", x.shift(6, 0, 3, 0, -1), -1);
        Check.due("shift(3, 0, 6, 0, -1)", x.shift(3, 0, 6, 0, -1), -1);
        Check.due("shift(-1, 0, 0, 0, 1)", x.shift(-1, 0, 0, 0, 1), -1);
        Check.due("shift(0, 0, -1, 0, 1)", x.shift(0, 0, -1, 0, 1), -1);
        Check.due("shift(3, 0, 0, 0, -1)", x.shift(3, 0, 0, 0, -1), -11);
        Check.due("shift(0, 0, 3, 0, -1)", x.shift(0, 0, 3, 0, -1), -11);
        Check.due("shift(3, 0, 3, 0, 0)", x.shift(3, 0, 3, 0, 0), -11);
        Check.due("shift(0, 0, 2, 0, -1): CAST first", x.shift(0, 0, 2, 0, -1), -12);
        int[][] noPlace = {{0, 0, -1}, {-1, 0, 1}, {0, -1, 1}, {4, 0, 2}, {0, 2, 2}, {6, 0, 0}, {0, 4, 0}, {0, 0, 4},
            {MOST, 0, 1}, {0, MOST, 1}, {0, 0, MOST}, {MOST, MOST, MOST}, {1, 0, MOST}, {LEAST, 0, 0}, {5, 0, 1},
            {0, 3, 1}, {0, 0, LEAST}};
        for (int[] w : noPlace) {
            Check.due("shift(0, " + w[0] + ", 1, " + w[1] + ", " + w[2] + ")", x.shift(0, w[0], 1, w[1], w[2]), -13);
        }
        shows(x, 1, 10, 20, 30);
    }
}
