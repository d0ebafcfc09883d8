/** Promises 1 to 10: parties, things, points, the division made, set-ups read. */
public final class SetUpTest {
    public static void main(String[] args) {
        newObject();
        parties();
        thing();
        pointAndOf();
        hold();
        split();
        settle();
        feed();
        readFaults();
        readClauses();
        Check.end("SetUpTest");
    }

    private static void newObject() {
        Check.promise(1, "a new object");
        PointShares x = new PointShares();
        Check.due("told(0)", x.told(0), 2);
        Check.due("told(1)", x.told(1), 0);
        Check.due("told(2)", x.told(2), 0);
        Check.due("told(3)", x.told(3), 0);
        for (int what = 0; what < 4; what++) {
            Check.due("count", x.count(what), 0);
        }
        for (int tape = 0; tape < 6; tape++) {
            Check.due("item", x.item(tape, 0, 1), -11);
        }
        Check.due("undo()", x.undo(), -3);
        Check.due("thing()", x.thing(), 0);
        x.point(0, 0, 7);
        x.hold(0, 0);
        Check.fraction("held(0, 0)", x.held(0, 0, 0), x.held(0, 0, 1), 1, 1);
        Check.fraction("share(0, 0)", x.share(0, 0, 0), x.share(0, 0, 1), 1, 1);
        Check.due("claim(0, 0)", x.claim(0, 0), 0);
        Check.due("NO", PointShares.NO, Long.MIN_VALUE);
        Check.due("NONE", PointShares.NONE, -1);
        Check.due("BAD", PointShares.BAD, -2);
        Check.due("STATE", PointShares.STATE, -3);
        Check.due("FULL", PointShares.FULL, -4);
    }

    private static void parties() {
        Check.promise(2, "parties");
        PointShares x = new PointShares();
        for (int n : new int[] {1, 0, -1, 5, Integer.MAX_VALUE, Integer.MIN_VALUE}) {
            Check.due("parties(" + n + ")", x.parties(n), -2);
        }
        Check.due("parties(3)", x.parties(3), 2);
        Check.due("parties(4)", x.parties(4), 3);
        x.thing();
        x.thing();
        x.point(3, 1, 50);
        x.hold(0, 1);
        x.split(0, 2, 1, 3);
        x.see(0, 1);
        x.event(3, 10);
        x.book(0, 3);
        x.feed('t');
        x.tape(2, 3, 5);
        x.image();
        Check.due("parties(9) changes nothing", x.parties(9), -2);
        Check.due("told(1)", x.told(1), 2);
        Check.due("count(0)", x.count(0), 1);
        Check.due("parties(4), which stays", x.parties(4), 4);
        Check.due("told(0)", x.told(0), 4);
        Check.due("told(1)", x.told(1), 0);
        Check.due("told(2)", x.told(2), 0);
        Check.due("count(0)", x.count(0), 0);
        Check.due("count(1)", x.count(1), 0);
        Check.due("count(2)", x.count(2), 0);
        Check.due("count(3): THE TEXT stays", x.count(3), 1);
        Check.due("peek: a TAPE stays", x.peek(2, 4), 0);
        Check.due("thing()", x.thing(), 0);
        Check.due("thing()", x.thing(), 1);
        Check.due("of(3, 1)", x.of(3, 1), 0);
        Check.due("holder(0, 0)", x.holder(0, 0), -5);
        Check.due("holder(0, 1)", x.holder(0, 1), -5);
        Check.due("parties(2)", x.parties(2), 4);
        Check.due("all(2)", x.all(2), -1);
        Check.due("undo()", x.undo(), 2);
        Check.due("of(3, 1)", x.of(3, 1), 50);
    }

    private static void thing() {
        Check.promise(3, "thing");
        PointShares x = new PointShares();
        for (int t = 0; t < 6; t++) {
            Check.due("thing()", x.thing(), t);
            Check.due("of(0, t)", x.of(0, t), 0);
            Check.due("holder(t, 0)", x.holder(t, 0), -5);
        }
        Check.due("thing()", x.thing(), -4);
        Check.due("told(1)", x.told(1), 6);
    }

    private static void pointAndOf() {
        Check.promise(4, "point");
        PointShares x = Check.setUp(3, Check.row(0, 0, 0), Check.row(0, 0, 0));
        Check.due("point(2, 1, 99)", x.point(2, 1, 99), 0);
        Check.due("point(2, 1, 0)", x.point(2, 1, 0), 99);
        Check.due("point(2, 1, 7)", x.point(2, 1, 7), 0);
        Check.due("point(2, 1, 100)", x.point(2, 1, 100), -2);
        Check.due("point(2, 1, -1)", x.point(2, 1, -1), -2);
        Check.due("point(3, 1, 100): NONE first", x.point(3, 1, 100), -1);
        Check.due("point(2, 2, -1): NONE first", x.point(2, 2, -1), -1);
        Check.due("point(-1, 0, 1)", x.point(-1, 0, 1), -1);
        Check.due("point(0, -1, 1)", x.point(0, -1, 1), -1);
        Check.promise(5, "of");
        Check.due("of(2, 1)", x.of(2, 1), 7);
        Check.due("of(1, 1)", x.of(1, 1), 0);
        Check.due("of(2, 0)", x.of(2, 0), 0);
        Check.due("of(3, 0)", x.of(3, 0), -1);
        Check.due("of(-1, 0)", x.of(-1, 0), -1);
        Check.due("of(0, 2)", x.of(0, 2), -1);
        Check.due("of(0, -1)", x.of(0, -1), -1);
    }

    private static void hold() {
        Check.promise(6, "hold");
        PointShares x = Check.setUp(3, Check.row(1, 1, 1), Check.row(1, 1, 1));
        Check.due("hold(0, 2)", x.hold(0, 2), -5);
        Check.due("hold(0, 0)", x.hold(0, 0), 2);
        Check.due("hold(0, -1)", x.hold(0, -1), 0);
        Check.due("hold(0, -1)", x.hold(0, -1), -5);
        Check.due("hold(2, 0)", x.hold(2, 0), -1);
        Check.due("hold(-1, 0)", x.hold(-1, 0), -1);
        Check.due("hold(0, 3)", x.hold(0, 3), -1);
        Check.due("hold(0, -2)", x.hold(0, -2), -1);
        Check.due("holder(0, 0)", x.holder(0, 0), -5);
        x.hold(0, 0);
        x.hold(1, 1);
        Check.due("split(0, 1, 1, 2)", x.split(0, 1, 1, 2), 1);
        Check.due("hold(1, 2): the other stays split", x.hold(1, 2), 1);
        Check.due("holder(0, 1)", x.holder(0, 1), 1);
        Check.due("hold(0, 0): whole again", x.hold(0, 0), 0);
        Check.due("holder(0, 1)", x.holder(0, 1), -5);
        Check.due("told(2)", x.told(2), 0);
        Check.fraction("held(0, 0)", x.held(0, 0, 0), x.held(0, 0, 1), 1, 1);
        Check.due("split(1, 0, 1, 2): none is split", x.split(1, 0, 1, 2), 1);
        Check.due("hold(1, -1)", x.hold(1, -1), 2);
        Check.due("told(2)", x.told(2), 0);
        Check.due("holder(1, 1)", x.holder(1, 1), -5);
        Check.due("looked at by held", x.held(0, 1, 0), 0);
    }

    private static void split() {
        Check.promise(7, "split");
        PointShares x = Check.setUp(4, Check.row(1, 1, 1, 1), Check.row(2, 2, 2, 2));
        Check.due("split(2, 0, 0, 0): NONE first", x.split(2, 0, 0, 0), -1);
        Check.due("split(-1, 0, 1, 2)", x.split(-1, 0, 1, 2), -1);
        Check.due("split(0, 4, 0, 2)", x.split(0, 4, 0, 2), -1);
        Check.due("split(0, -1, 1, 2)", x.split(0, -1, 1, 2), -1);
        Check.due("split(0, 0, 0, 2): BAD ahead of STATE", x.split(0, 0, 0, 2), -2);
        Check.due("split(0, 0, 2, 2)", x.split(0, 0, 2, 2), -2);
        Check.due("split(0, 0, 3, 2)", x.split(0, 0, 3, 2), -2);
        Check.due("split(0, 0, 1, 100)", x.split(0, 0, 1, 100), -2);
        Check.due("split(0, 0, -1, 1)", x.split(0, 0, -1, 1), -2);
        Check.due("split(0, 0, 1, 0)", x.split(0, 0, 1, 0), -2);
        Check.due("split(0, 0, -5, -3)", x.split(0, 0, -5, -3), -2);
        Check.due("split(0, 0, 1, 2): no holder", x.split(0, 0, 1, 2), -3);
        x.hold(0, 0);
        x.hold(1, 1);
        Check.due("split(0, 0, 1, 2): its first one", x.split(0, 0, 1, 2), -3);
        Check.due("split(0, 3, 98, 99)", x.split(0, 3, 98, 99), 1);
        Check.fraction("held(3, 0)", x.held(3, 0, 0), x.held(3, 0, 1), 98, 99);
        Check.fraction("held(0, 0)", x.held(0, 0, 0), x.held(0, 0, 1), 1, 99);
        Check.due("split(1, 0, 1, 2): another is split", x.split(1, 0, 1, 2), -4);
        Check.due("split(1, 1, 1, 2): STATE ahead of FULL", x.split(1, 1, 1, 2), -3);
        Check.due("split(0, 2, 6, 9): split anew", x.split(0, 2, 6, 9), 1);
        Check.due("holder(0, 0)", x.holder(0, 0), 0);
        Check.due("holder(0, 1)", x.holder(0, 1), 2);
        Check.fraction("held(2, 0)", x.held(2, 0, 0), x.held(2, 0, 1), 2, 3);
        Check.fraction("held(0, 0)", x.held(0, 0, 0), x.held(0, 0, 1), 1, 3);
        Check.fraction("held(3, 0)", x.held(3, 0, 0), x.held(3, 0, 1), 0, 1);
        Check.due("told(2)", x.told(2), 1);
    }

    private static void settle() {
        Check.promise(8, "settle");
        PointShares x = Check.setUp(3, Check.row(10, 10, 3), Check.row(20, 0, 4), Check.row(0, 20, 5));
        Check.due("settle(0, 3)", x.settle(0, 3), -1);
        Check.due("settle(-1, 0)", x.settle(-1, 0), -1);
        Check.due("settle(1, 1)", x.settle(1, 1), -1);
        x.hold(0, 2);
        x.split(0, 0, 1, 2);
        Check.due("settle(0, 1)", x.settle(0, 1), 0);
        Check.due("holder(0, 0)", x.holder(0, 0), 0);
        Check.due("holder(0, 1)", x.holder(0, 1), 1);
        Check.due("holder(1, 0)", x.holder(1, 0), 0);
        Check.due("holder(2, 0)", x.holder(2, 0), 1);
        Check.fraction("held(1, 0)", x.held(1, 0, 0), x.held(1, 0, 1), 1, 2);
        Check.due("settle(1, 0)", x.settle(1, 0), 0);
        Check.due("holder(0, 0)", x.holder(0, 0), 1);
        Check.due("holder(0, 1)", x.holder(0, 1), 0);
        x.point(0, 0, 0);
        x.point(1, 0, 0);
        Check.due("settle(0, 1): none is split", x.settle(0, 1), -5);
        Check.due("told(2)", x.told(2), 0);
        Check.due("holder(0, 1)", x.holder(0, 1), -5);
        x.point(1, 2, 0);
        Check.due("settle(0, 1): ALL of 1 is 0", x.settle(0, 1), -3);
        Check.due("settle(1, 2)", x.settle(1, 2), -3);
        Check.due("holder(2, 0): as it was", x.holder(2, 0), 1);
        Check.due("settle without things", new PointShares().settle(0, 1), -3);
    }

    private static void feed() {
        Check.promise(9, "feed");
        PointShares x = new PointShares();
        Check.due("feed(-1)", x.feed(-1), -2);
        Check.due("feed(128)", x.feed(128), -2);
        Check.due("feed(0)", x.feed(0), 1);
        Check.due("feed(127)", x.feed(127), 2);
        for (int k = 3; k <= 100; k++) {
            Check.due("feed('t')", x.feed('t'), k);
        }
        Check.due("feed('t')", x.feed('t'), -4);
        Check.due("feed(128): BAD first", x.feed(128), -2);
        Check.due("count(3)", x.count(3), 100);
        Check.due("read()", x.read(), -10);
        Check.due("feed('t')", x.feed('t'), 1);
    }

    private static void readFaults() {
        Check.promise(10, "read: faults");
        PointShares x = new PointShares();
        Check.read(x, "", -10);
        String[] tooEarly = {"n", "p", "p0", "p00", "h", "h0", "s", "s1", "t;", "n3;", "p001;", "p0012;", "t;t;s0"};
        for (String text : tooEarly) {
            Check.read(x, text, -10 - text.length());
        }
        String[] atTheLast = {"x", ";", "T", "1", " ", "n;", "nx", "n33", "tt", "t0", "t ", "p;", "p0;", "p00;", "p0x",
            "p00 ", "p00123", "p0012 ", "h;", "h0;", "h000", "h-", "s0;", "s0,", "s011", "t;;", "t;x", "t;t;h00,",
            "n/", "n:", "p00/", "p00:", "p000:"};
        for (String text : atTheLast) {
            Check.read(x, text, -9 - text.length());
        }
        Check.read(x, "t;t;p00 5;p10 7", -17);
        Check.read(x, "t" + ";t".repeat(13) + ";", -37);
        Check.read(x, "t" + ";t".repeat(14), -37);
        Check.read(x, "p0000" + ";p0000".repeat(13) + "5", -93);
        x.feed(0);
        Check.due("read() of the sign 0", x.read(), -10);
        x.feed('n');
        x.feed(0);
        Check.due("read() of n and the sign 0", x.read(), -11);
        Check.due("told(1): nothing was done", x.told(1), 0);
        PointShares y = Check.setUp(2, Check.row(1, 1));
        Check.read(y, "x01", -10);
        Check.read(y, "h01;p0000;s01;", -24);
        Check.due("holder(0, 0): nothing was done", y.holder(0, 0), -5);
        Check.due("of(0, 0): nothing was done", y.of(0, 0), 1);
    }

    private static void readClauses() {
        Check.promise(10, "read: clauses");
        PointShares x = new PointShares();
        Check.read(x, "n3;t;t;p017;p2199;h12;h01", 7);
        Check.due("told(0)", x.told(0), 3);
        Check.due("told(1)", x.told(1), 2);
        Check.due("of(0, 1)", x.of(0, 1), 7);
        Check.due("of(2, 1)", x.of(2, 1), 99);
        Check.due("holder(1, 0)", x.holder(1, 0), 2);
        Check.due("holder(0, 0)", x.holder(0, 0), 1);
        Check.read(x, "n5;n1;p30 ", -19);
        Check.read(x, "n5;n1;p305;p025;h20;h03;s03;s00;s01", 0);
        Check.due("told(0)", x.told(0), 3);
        Check.read(x, "s02;p001;s02;h00", 4);
        Check.due("of(0, 0)", x.of(0, 0), 1);
        Check.due("holder(0, 0)", x.holder(0, 0), 0);
        Check.read(x, "t;t;t;t;t;t;t", 4);
        Check.due("told(1)", x.told(1), 6);
        Check.read(x, "p0009;p0100;n4" + ";t".repeat(11), 9);
        Check.due("told(0)", x.told(0), 4);
        Check.due("told(1)", x.told(1), 6);
        Check.due("of(0, 0)", x.of(0, 0), 0);
        Check.read(x, "n2;t;p005;p105;s01", 5);
        Check.due("told(2)", x.told(2), 1);
        Check.read(x, "p0000" + ";p0009".repeat(13), 14);
        Check.due("of(0, 0)", x.of(0, 0), 9);
        Check.read(x, "n2;t;t;p001;p111;s01", 6);
        Check.due("settle answered -5 and counts", x.holder(1, 0), 1);
    }
}
