/** Promises 28 to 31: events, books. */
public final class EventsTest {
    public static void main(String[] args) {
        event();
        after();
        afterAll();
        book();
        looked();
        Check.end("EventsTest");
    }

    private static void event() {
        Check.promise(28, "event");
        PointShares x = Check.setUp(3, Check.row(1, 1, 1), Check.row(2, 2, 2));
        Check.due("event(4, 0)", x.event(4, 0), -1);
        Check.due("event(-2, 0)", x.event(-2, 0), -1);
        Check.due("event(0, 2)", x.event(0, 2), -1);
        Check.due("event(1, -1)", x.event(1, -1), -1);
        Check.due("event(2, 100)", x.event(2, 100), -1);
        Check.due("event(3, 100)", x.event(3, 100), -2);
        Check.due("event(3, -1)", x.event(3, -1), -2);
        Check.due("event(3, 99)", x.event(3, 99), 1);
        Check.due("event(3, 0)", x.event(3, 0), 2);
        Check.due("event(0, 1)", x.event(0, 1), 3);
        Check.due("event(1, 1)", x.event(1, 1), 4);
        Check.due("event(2, 0)", x.event(2, 0), 5);
        for (int k = 6; k <= 8; k++) {
            Check.due("event(2, 0)", x.event(2, 0), k);
        }
        Check.due("event(2, 0)", x.event(2, 0), -4);
        Check.due("event(2, 2): NONE ahead of FULL", x.event(2, 2), -1);
        Check.due("event(3, 100): BAD ahead of FULL", x.event(3, 100), -2);
        Check.due("count(1)", x.count(1), 8);
        Check.due("event(-1, 999)", x.event(-1, 999), 0);
        Check.due("count(1)", x.count(1), 0);
        Check.due("event(0, 0)", x.event(0, 0), 1);
    }

    private static void after(PointShares x, long up, long low, long thing) {
        Check.due("after(0)", x.after(0), up);
        Check.due("after(1)", x.after(1), low);
        Check.due("after(2)", x.after(2), thing);
    }

    private static void after() {
        Check.promise(29, "after");
        PointShares x = Check.setUp(3, Check.row(9, 9, 50), Check.row(4, 2, 50));
        after(x, 13, 24, 0);
        Check.due("after(3)", x.after(3), Check.NO);
        Check.due("after(-1)", x.after(-1), Check.NO);
        x.event(0, 1);
        // 0 has 9 of 9, 1 has 2 of 11
        after(x, 11, 20, 0);
        x.event(-1, 0);
        x.event(1, 1);
        after(x, 13, 22, 0);
        x.event(-1, 0);
        x.event(2, 1);
        after(x, 1, 2, 0);
        x.event(2, 0);
        after(x, Check.NO, Check.NO, Check.NO);
        x.event(-1, 0);
        x.event(3, 4);
        after(x, 13, 22, 0);
        x.event(3, 5);
        after(x, 1, 2, 0);
        x.event(3, 10);
        after(x, Check.NO, Check.NO, Check.NO);
        Check.due("after(3)", x.after(3), Check.NO);
        Check.due("after(-1)", x.after(-1), Check.NO);
        Check.due("of(0, 0): as it was", x.of(0, 0), 9);
        Check.due("of(2, 1): as it was", x.of(2, 1), 50);
        Check.due("all(0)", x.all(0), 13);
        PointShares even = Check.setUp(2, Check.row(6, 4), Check.row(4, 6));
        after(even, 3, 5, -5);
        even.event(0, 0);
        // 0 has only 4 by 4 for thing 1, 1 has 4 by 10 of 0 for sure
        after(even, 5, 8, 1);
        Check.due("after(0) without things", new PointShares().after(0), Check.NO);
    }

    private static void afterAll() {
        Check.promise(29, "after: in order");
        PointShares x = Check.setUp(2, Check.row(3, 5), Check.row(8, 5), Check.row(5, 6));
        x.event(3, 4);
        x.event(0, 1);
        x.event(1, 2);
        // 0: 0, 0, 5; 1: 5, 5, 0
        after(x, 1, 1, -5);
        x.event(3, 5);
        after(x, 1, 1, -5);
        x.event(3, 6);
        after(x, Check.NO, Check.NO, Check.NO);
    }

    private static void book() {
        Check.promise(30, "book");
        PointShares x = Check.setUp(3, Check.row(1, 1, 1), Check.row(2, 2, 2));
        Check.due("book(2, 0)", x.book(2, 0), -1);
        Check.due("book(-2, 0)", x.book(-2, 0), -1);
        Check.due("book(0, 3)", x.book(0, 3), -1);
        Check.due("book(0, -1)", x.book(0, -1), -1);
        Check.due("book(-1, -1)", x.book(-1, -1), 0);
        for (int k = 1; k <= 8; k++) {
            Check.due("book(1, 2)", x.book(1, 2), k);
        }
        Check.due("book(0, 0)", x.book(0, 0), -4);
        Check.due("book(2, 0): NONE ahead of FULL", x.book(2, 0), -1);
        Check.due("count(2)", x.count(2), 8);
        Check.due("book(-1, 0)", x.book(-1, 0), 0);
        Check.due("count(2)", x.count(2), 0);
        Check.due("looked()", x.looked(), -5);
    }

    private static void looked() {
        Check.promise(31, "looked");
        PointShares x = Check.setUp(3, Check.row(1, 1, 1), Check.row(2, 2, 2));
        Check.due("looked() at nothing", x.looked(), -5);
        x.hold(0, 0);
        x.hold(1, 1);
        x.book(0, 0);
        Check.due("looked()", x.looked(), -5);
        x.book(1, 1);
        x.book(0, 2);
        Check.due("looked()", x.looked(), 2);
        x.split(0, 2, 1, 9);
        Check.due("looked(): 2 has a part", x.looked(), -5);
        x.book(1, 0);
        Check.due("looked()", x.looked(), 3);
        x.hold(0, 2);
        Check.due("looked()", x.looked(), 0);
        x.hold(0, -1);
        Check.due("looked()", x.looked(), 0);
        x.book(-1, 0);
        x.book(1, 1);
        x.book(0, 1);
        Check.due("looked()", x.looked(), 1);
    }
}
