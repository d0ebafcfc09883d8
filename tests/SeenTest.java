/** Promises 24 to 27: seen, odds, means. */
public final class SeenTest {
    public static void main(String[] args) {
        see();
        fits();
        odds();
        mean();
        Check.end("SeenTest");
    }

    private static void see() {
        Check.promise(24, "see");
        PointShares x = Check.setUp(3, Check.row(1, 1, 1), Check.row(2, 2, 2));
        Check.due("see(2, 5): NONE first", x.see(2, 5), -1);
        Check.due("see(-2, 0)", x.see(-2, 0), -1);
        Check.due("see(0, 2)", x.see(0, 2), -2);
        Check.due("see(0, -1)", x.see(0, -1), -2);
        Check.due("see(-1, 9)", x.see(-1, 9), 0);
        for (int k = 1; k <= 5; k++) {
            Check.due("see(1, 0)", x.see(1, 0), k);
        }
        Check.due("see(0, 0)", x.see(0, 0), -4);
        Check.due("see(0, 2): BAD ahead of FULL", x.see(0, 2), -2);
        Check.due("see(2, 0): NONE ahead of FULL", x.see(2, 0), -1);
        Check.due("count(0)", x.count(0), 5);
        Check.due("see(-1, 0)", x.see(-1, 0), 0);
        Check.due("count(0)", x.count(0), 0);
        Check.due("see(0, 1)", x.see(0, 1), 1);
    }

    private static void fits() {
        Check.promise(25, "fits");
        PointShares x = Check.setUp(3, Check.row(9, 9, 0), Check.row(4, 2, 0));
        Check.due("fits(0, 0, 0): nothing seen", x.fits(0, 0, 0), 21);
        Check.due("fits(0, 0, 1)", x.fits(0, 0, 1), 0);
        x.see(0, 0);
        x.see(1, 1);
        // 19 and 20 of party 0 for thing 0 leave thing 1 to party 1
        Check.due("fits(0, 0, 0)", x.fits(0, 0, 0), 2);
        Check.due("fits(0, 0, 1)", x.fits(0, 0, 1), 19);
        Check.due("fits(1, 1, 0)", x.fits(1, 1, 0), 16);
        Check.due("fits(1, 1, 1)", x.fits(1, 1, 1), 5);
        Check.due("of(0, 0): as it was", x.of(0, 0), 9);
        Check.due("of(1, 1): as it was", x.of(1, 1), 2);
        x.see(1, 0);
        x.see(0, 1);
        Check.due("fits(0, 0, 0): none", x.fits(0, 0, 0), 0);
        Check.due("fits(0, 0, 1): none", x.fits(0, 0, 1), -5);
        x.see(-1, 0);
        x.point(0, 1, 0);
        Check.due("fits(0, 0, 0): no ADJUSTED by 0", x.fits(0, 0, 0), 20);
        Check.due("fits(0, 0, 1)", x.fits(0, 0, 1), 1);
        x.point(1, 0, 0);
        x.point(1, 1, 0);
        Check.due("fits(0, 0, 0): no ADJUSTED at all", x.fits(0, 0, 0), 0);
        Check.due("fits(0, 0, 1)", x.fits(0, 0, 1), -5);
        Check.due("fits(2, 0, 0)", x.fits(2, 0, 0), -1);
        Check.due("fits(-1, 0, 0)", x.fits(-1, 0, 0), -1);
        Check.due("fits(0, 2, 0)", x.fits(0, 2, 0), -1);
        Check.due("fits(0, -1, 0)", x.fits(0, -1, 0), -1);
        Check.due("fits(0, 0, 2)", x.fits(0, 0, 2), -1);
        Check.due("fits(0, 0, -1)", x.fits(0, 0, -1), -1);
    }

    private static void odds() {
        Check.promise(26, "odds");
        PointShares x = Check.setUp(3, Check.row(9, 9, 0), Check.row(4, 2, 0));
        Check.fraction("odds(0)", x.odds(0, 0), x.odds(0, 1), 1, 1);
        // whatever it gives thing 1, thing 0 is split
        Check.fraction("odds(1)", x.odds(1, 0), x.odds(1, 1), 0, 1);
        PointShares y = Check.setUp(2, Check.row(0, 5), Check.row(5, 5));
        // by 1 .. 4 thing 1 is split, by 5 thing 0 goes over whole, by 6 .. 10 thing 0 is split
        Check.fraction("odds(0)", y.odds(0, 0), y.odds(0, 1), 1, 2);
        Check.fraction("odds(1)", y.odds(1, 0), y.odds(1, 1), 1, 1);
        y.point(0, 1, 3);
        // by 3 it goes over whole, by 4 .. 10 it is split
        Check.fraction("odds(0)", y.odds(0, 0), y.odds(0, 1), 7, 10);
        y.point(0, 1, 5);
        Check.due("of(0, 0): as it was", y.of(0, 0), 0);
        y.point(1, 0, 0);
        y.point(1, 1, 0);
        Check.fraction("odds(0): no ADJUSTED", y.odds(0, 0), y.odds(0, 1), 0, 1);
        Check.due("odds(2, 0)", y.odds(2, 0), Check.NO);
        Check.due("odds(-1, 0)", y.odds(-1, 0), Check.NO);
        Check.due("odds(0, 2)", y.odds(0, 2), Check.NO);
        Check.due("odds(0, -1)", y.odds(0, -1), Check.NO);
    }

    private static void mean() {
        Check.promise(27, "mean");
        PointShares x = Check.setUp(3, Check.row(9, 1, 0), Check.row(6, 2, 0), Check.row(6, 4, 0), Check.row(1, 4, 0));
        Check.fraction("mean(0)", x.mean(0, 0), x.mean(0, 1), 11, 2);
        Check.fraction("mean(1)", x.mean(1, 0), x.mean(1, 1), 11, 4);
        Check.fraction("mean(2)", x.mean(2, 0), x.mean(2, 1), 0, 1);
        x.point(0, 0, 7);
        Check.fraction("mean(0)", x.mean(0, 0), x.mean(0, 1), 5, 1);
        Check.due("mean(3, 0)", x.mean(3, 0), Check.NO);
        Check.due("mean(-1, 0)", x.mean(-1, 0), Check.NO);
        Check.due("mean(0, 2)", x.mean(0, 2), Check.NO);
        Check.due("mean(0, -1)", x.mean(0, -1), Check.NO);
        Check.due("mean(0, 0) without things", new PointShares().mean(0, 0), Check.NO);
    }
}
