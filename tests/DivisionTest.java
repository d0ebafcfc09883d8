/** Promises 11 to 17: the division looked at. */
public final class DivisionTest {
    public static void main(String[] args) {
        holder();
        held();
        share();
        claims();
        claimOfEnvy();
        better();
        told();
        poorestByFairest();
        all();
        Check.end("DivisionTest");
    }

    /** Things 0, 1, 2 of three parties: 0 has 0, 1 has 1 and 2 of 5 parts of 2, whose rest is 2's. */
    private static PointShares divided() {
        PointShares x = Check.setUp(3, Check.row(10, 20, 30), Check.row(5, 0, 15), Check.row(25, 40, 0));
        x.hold(0, 0);
        x.hold(1, 1);
        x.hold(2, 2);
        x.split(2, 1, 4, 10);
        return x;
    }

    private static void holder() {
        Check.promise(11, "holder");
        PointShares x = divided();
        x.thing();
        Check.due("holder(0, 0)", x.holder(0, 0), 0);
        Check.due("holder(0, 1)", x.holder(0, 1), -5);
        Check.due("holder(2, 0)", x.holder(2, 0), 2);
        Check.due("holder(2, 1)", x.holder(2, 1), 1);
        Check.due("holder(3, 0)", x.holder(3, 0), -5);
        Check.due("holder(3, 1)", x.holder(3, 1), -5);
        Check.due("holder(4, 0)", x.holder(4, 0), -1);
        Check.due("holder(-1, 0)", x.holder(-1, 0), -1);
        Check.due("holder(0, 2)", x.holder(0, 2), -1);
        Check.due("holder(0, -1)", x.holder(0, -1), -1);
    }

    private static void held() {
        Check.promise(12, "held");
        PointShares x = divided();
        Check.fraction("held(0, 0)", x.held(0, 0, 0), x.held(0, 0, 1), 1, 1);
        Check.fraction("held(1, 0)", x.held(1, 0, 0), x.held(1, 0, 1), 0, 1);
        Check.fraction("held(1, 2)", x.held(1, 2, 0), x.held(1, 2, 1), 2, 5);
        Check.fraction("held(2, 2)", x.held(2, 2, 0), x.held(2, 2, 1), 3, 5);
        Check.fraction("held(0, 2)", x.held(0, 2, 0), x.held(0, 2, 1), 0, 1);
        Check.fraction("held(1, 1)", x.held(1, 1, 0), x.held(1, 1, 1), 1, 1);
        Check.due("held(3, 0, 0)", x.held(3, 0, 0), Check.NO);
        Check.due("held(-1, 0, 0)", x.held(-1, 0, 0), Check.NO);
        Check.due("held(0, 3, 0)", x.held(0, 3, 0), Check.NO);
        Check.due("held(0, -1, 0)", x.held(0, -1, 0), Check.NO);
        Check.due("held(0, 0, 2)", x.held(0, 0, 2), Check.NO);
        Check.due("held(0, 0, -1)", x.held(0, 0, -1), Check.NO);
    }

    private static void share() {
        Check.promise(13, "share");
        PointShares x = divided();
        Check.fraction("share(0, 0)", x.share(0, 0, 0), x.share(0, 0, 1), 1, 4);
        Check.fraction("share(0, 1)", x.share(0, 1, 0), x.share(0, 1, 1), 3, 8);
        Check.fraction("share(0, 2)", x.share(0, 2, 0), x.share(0, 2, 1), 3, 8);
        Check.fraction("share(1, 1)", x.share(1, 1, 0), x.share(1, 1, 1), 4, 15);
        Check.fraction("share(2, 2)", x.share(2, 2, 0), x.share(2, 2, 1), 0, 1);
        Check.fraction("share(2, 1)", x.share(2, 1, 0), x.share(2, 1, 1), 1, 3);
        Check.due("share(3, 0, 0)", x.share(3, 0, 0), Check.NO);
        Check.due("share(-1, 0, 0)", x.share(-1, 0, 0), Check.NO);
        Check.due("share(0, 3, 0)", x.share(0, 3, 0), Check.NO);
        Check.due("share(0, -1, 0)", x.share(0, -1, 0), Check.NO);
        Check.due("share(0, 0, 2)", x.share(0, 0, 2), Check.NO);
        Check.due("share(0, 0, -1)", x.share(0, 0, -1), Check.NO);
        x.point(2, 0, 0);
        x.point(2, 1, 0);
        Check.fraction("share(2, 2), ALL is 0", x.share(2, 2, 0), x.share(2, 2, 1), 1, 1);
        Check.fraction("share(2, 0), ALL is 0", x.share(2, 0, 0), x.share(2, 0, 1), 1, 1);
    }

    private static void claim(PointShares x, int party, int claim, int cause, int second) {
        Check.due("claim(" + party + ", 0)", x.claim(party, 0), claim);
        Check.due("claim(" + party + ", 1)", x.claim(party, 1), cause);
        Check.due("claim(" + party + ", 2)", x.claim(party, 2), second);
        Check.due("claim(" + party + ", 3)", x.claim(party, 3), -5);
        Check.due("claim(" + party + ", most)", x.claim(party, Integer.MAX_VALUE), -5);
    }

    private static void claims() {
        Check.promise(14, "claim");
        PointShares x = Check.setUp(3, Check.row(6, 0, 0), Check.row(2, 5, 0), Check.row(4, 5, 0));
        Check.due("claim(3, 0)", x.claim(3, 0), -1);
        Check.due("claim(-1, 0)", x.claim(-1, 0), -1);
        Check.due("claim(0, -1)", x.claim(0, -1), -1);
        claim(x, 0, 2, 10, 6);
        claim(x, 1, 2, 11, 5);
        claim(x, 2, 1, 10, -5);
        x.hold(0, 2);
        claim(x, 0, 2, 11, 2);
        claim(x, 2, 1, 11, -5);
        x.hold(1, 0);
        x.split(1, 2, 1, 7);
        claim(x, 2, 1, 12, -5);
        claim(x, 0, 2, 12, 4);
        x.hold(2, 1);
        claim(x, 0, 3, 2, -5);
        claim(x, 1, 0, -5, -5);
        x.hold(0, 1);
        x.hold(1, 1);
        claim(x, 0, 3, 0, -5);
    }

    private static void claimOfEnvy() {
        Check.promise(14, "claim of envy");
        PointShares x = Check.setUp(4, Check.row(10, 4, 5, 1), Check.row(10, 0, 5, 1), Check.row(6, 0, 5, 0),
            Check.row(4, 0, 5, 0));
        x.hold(0, 0);
        x.hold(1, 2);
        x.hold(2, 2);
        x.hold(3, 1);
        claim(x, 0, 4, 12, 6);
        claim(x, 1, 3, 8, -5);
        claim(x, 2, 0, -5, -5);
        claim(x, 3, 3, 0, -5);
        x.hold(0, 1);
        x.hold(1, 0);
        claim(x, 0, 4, 11, 9);
        x.hold(3, 2);
        claim(x, 0, 0, -5, -5);
        PointShares two = Check.setUp(2, Check.row(1, 1), Check.row(1, 2));
        two.hold(0, 0);
        two.hold(1, 1);
        claim(two, 0, 0, -5, -5);
        claim(two, 1, 0, -5, -5);
        two.hold(0, -1);
        claim(two, 1, 2, 10, 1);
        PointShares three = Check.setUp(3, Check.row(1, 5, 1), Check.row(1, 4, 1), Check.row(1, 0, 9));
        three.hold(0, 0);
        three.hold(1, 1);
        three.hold(2, 2);
        // 1 has 4 of 9, which is no less than 1 by 3, but 5 of 9 would rather have 0's
        claim(three, 1, 4, 10, 1);
        three.point(1, 0, 8);
        // now it has 4 of 12, just 1 by 3
        claim(three, 1, 4, 10, 1);
        three.point(1, 2, 1);
        claim(three, 1, 3, 2, -5);
    }

    private static void better() {
        Check.promise(15, "better");
        PointShares x = Check.setUp(3, Check.row(5, 5, 1), Check.row(3, 6, 1), Check.row(4, 4, 9), Check.row(8, 1, 0));
        Check.due("better(0, 1): nothing held", x.better(0, 1), -5);
        x.hold(0, 1);
        x.hold(1, 0);
        x.hold(2, 1);
        x.hold(3, 1);
        Check.due("better(0, 1)", x.better(0, 1), 10);
        Check.due("better(1, 0)", x.better(1, 0), 1);
        Check.due("better(0, 2)", x.better(0, 2), -5);
        x.hold(0, 0);
        Check.due("better(0, 1)", x.better(0, 1), 3);
        x.hold(3, 0);
        Check.due("better(0, 1)", x.better(0, 1), 12);
        Check.due("better(1, 0)", x.better(1, 0), 21);
        x.split(1, 1, 1, 2);
        Check.due("better(1, 0)", x.better(1, 0), 21);
        x.hold(1, 1);
        Check.due("better(1, 0)", x.better(1, 0), -5);
        Check.due("better(0, 0)", x.better(0, 0), -1);
        Check.due("better(0, 3)", x.better(0, 3), -1);
        Check.due("better(-1, 0)", x.better(-1, 0), -1);
    }

    private static void told() {
        Check.promise(16, "told");
        PointShares x = divided();
        x.thing();
        Check.due("told(0)", x.told(0), 3);
        Check.due("told(1)", x.told(1), 4);
        Check.due("told(2)", x.told(2), 1);
        Check.due("told(3)", x.told(3), 1);
        // 0 would rather have 1's (3/8 above 1/4), 1 would have 2's (2/5 above 4/15), 2 would have 0's
        Check.due("told(4)", x.told(4), 7);
        x.hold(2, 0);
        Check.due("told(4)", x.told(4), 6);
        Check.due("told(2)", x.told(2), 0);
        x.hold(0, -1);
        Check.due("told(3)", x.told(3), 2);
        Check.due("told(-1)", x.told(-1), -1);
        Check.due("told(6)", x.told(6), -1);
    }

    private static void poorestByFairest() {
        Check.promise(16, "told(5)");
        PointShares x = Check.setUp(2, Check.row(3, 2), Check.row(1, 1));
        // ways: 0's share 3/4 and 1's 1/3; or 1/4 and 2/3
        Check.due("told(5)", x.told(5), 1);
        x.point(0, 0, 2);
        x.point(1, 0, 3);
        // 2/3 and 1/4; or 1/3 and 3/4
        Check.due("told(5)", x.told(5), 0);
        x.point(0, 0, 1);
        x.point(1, 0, 1);
        Check.due("told(5): both alike", x.told(5), 0);
        x.point(0, 0, 0);
        x.point(0, 1, 0);
        Check.due("told(5): ALL of 0 is 0", x.told(5), 0);
        x.thing();
        x.point(1, 2, 9);
        Check.due("told(5): ALL of 0 is 0, 1 has all", x.told(5), 0);
        PointShares one = Check.setUp(3, Check.row(4, 4, 4));
        Check.due("told(5)", one.told(5), 1);
    }

    private static void all() {
        Check.promise(17, "all");
        PointShares x = divided();
        Check.due("all(0)", x.all(0), 40);
        Check.due("all(1)", x.all(1), 60);
        Check.due("all(2)", x.all(2), 45);
        Check.due("all(3)", x.all(3), -1);
        Check.due("all(-1)", x.all(-1), -1);
        Check.due("all(0) without things", new PointShares().all(0), 0);
    }
}
