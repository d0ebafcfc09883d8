/** Promises 24 to 31, sentence by sentence: the cases at each bound that the document names. */
public final class SeenEdgesTest {
    public static void main(String[] args) {
        see();
        seeOrder();
        fitsNumbers();
        fits();
        fitsSeen();
        odds();
        mean();
        event();
        eventOrder();
        after();
        afterRows();
        book();
        looked();
        Check.end("SeenEdgesTest");
    }

    private static final String FIVE_SEEN = "see(0, 0) = 1 | see(0, 1) = 2 | see(1, 0) = 3 | see(1, 1) = 4 | see(0, 0) = 5\n";
    private static final String EIGHT_EVENTS = "event(3, 1) = 1 | event(3, 0) = 2 | event(3, 1) = 3 | event(3, 0) = 4\n"
        + "event(3, 1) = 5 | event(3, 0) = 6 | event(3, 1) = 7 | event(3, 0) = 8\n";
    private static final String EIGHT_IN_BOOK = "book(0, 0) = 1 | book(0, 0) = 2 | book(0, 0) = 3 | book(0, 0) = 4\n"
        + "book(0, 0) = 5 | book(0, 0) = 6 | book(0, 0) = 7 | book(0, 1) = 8\n";

    private static void see() {
        Runs.run(24, "5 rows at most; FULL", "things 5,6 7,8\n" + FIVE_SEEN
            + "see(0, 0) = -4 | see(1, 1) = -4 | count(0) = 5 | fits(0, 0) = 0 -5");
        Runs.run(24, "how many there are, the same row once more too", """
            things 5,6
            see(0, 1) = 1 | see(0, 1) = 2 | see(0, 1) = 3 | count(0) = 3""");
        Runs.run(24, "thing -1: none then, 0, whatever the rest is", """
            things 5,6
            see(-1, 0) = 0 | see(0, 0) = 1 | see(-1, 2) = 0 | count(0) = 0 | see(0, 1) = 1 | see(-1, -1) = 0 | count(0) = 0
            see(0, 0) = 1 | see(-1, MAX) = 0 | see(0, 0) = 1 | see(-1, MIN) = 0 | count(0) = 0""");
        Runs.run(24, "thing -1 without THINGS", "see(-1, 0) = 0 | see(-1, 9) = 0 | see(0, 0) = -1");
        Runs.run(24, "thing -1 when it is FULL: there is room then", "things 5,6 7,8\n" + FIVE_SEEN
            + "see(-1, 0) = 0 | count(0) = 0 | fits(0, 0, 0) = 21\n" + FIVE_SEEN + "see(0, 0) = -4");
        Runs.run(24, "NONE: the THING", """
            see(0, 0) = -1
            things 5,6 7,8
            see(2, 0) = -1 | see(-2, 0) = -1 | see(6, 0) = -1 | see(MAX, 0) = -1 | see(MIN, 0) = -1 | count(0) = 0
            see(1, 0) = 1""");
        Runs.run(24, "BAD: a PARTY that is neither 0 nor 1, though it is one", """
            parties(4) = 2
            things 5,6
            see(0, 2) = -2 | see(0, 3) = -2 | see(0, 4) = -2 | see(0, -1) = -2 | see(0, MAX) = -2 | see(0, MIN) = -2
            count(0) = 0 | see(0, 1) = 1 | see(0, 0) = 2""");
    }

    private static void seeOrder() {
        Runs.run(24, "NONE goes ahead of BAD", "things 5,6\nsee(1, 2) = -1 | see(-2, -1) = -1 | see(0, 2) = -2");
        Runs.run(24, "NONE and BAD go ahead of FULL", "things 5,6 7,8\n" + FIVE_SEEN
            + "see(2, 0) = -1 | see(-2, 0) = -1 | see(0, 2) = -2 | see(0, -1) = -2 | see(2, 2) = -1 | see(0, 1) = -4");
    }

    private static void fitsNumbers() {
        Runs.run(25, "NONE: a PARTY that is neither 0 nor 1, though it is one", """
            parties(4) = 2
            things 5,6
            fits(2, 0) = -1 -1 | fits(3, 0) = -1 -1 | fits(-1, 0) = -1 -1 | fits(MAX, 0) = -1 -1 | fits(MIN, 0) = -1 -1
            fits(1, 0) = 20 1""");
        Runs.run(25, "NONE: the THING", """
            fits(0, 0) = -1 -1
            things 5,6
            fits(0, 1) = -1 -1 | fits(0, -1) = -1 -1 | fits(0, 6) = -1 -1 | fits(0, MAX) = -1 -1 | fits(1, MIN) = -1 -1
            fits(0, 0) = 20 1""");
        Runs.run(25, "NONE: what", """
            things 5,6
            fits(0, 0, 2) = -1 | fits(0, 0, -1) = -1 | fits(0, 0, MAX) = -1 | fits(0, 0, MIN) = -1 | fits(0, 0) = 20 1""");
    }

    private static void fits() {
        Runs.run(25, "POINTS 0 .. 20: all of them", "things 5,6 7,8\nfits(0, 0) = 21 0 | fits(1, 1) = 21 0");
        Runs.run(25, "POINTS 0 .. 20: 20 alone", """
            things 0,1 19,1
            see(0, 0) = 1 | see(1, 1) = 2 | fits(0, 0) = 1 20""");
        Runs.run(25, "POINTS 0 .. 20: not 21", """
            things 0,1 20,1
            see(0, 0) = 1 | see(1, 1) = 2 | fits(0, 0) = 0 -5 | point(0, 0, 21) = 0 | fits(0, 0) = 0 -5
            adjusted(0, 1) = 0 1 3 0 0""");
        Runs.run(25, "POINTS 0 .. 20: 0 alone", """
            things 9,1 1,2
            see(1, 0) = 1 | see(0, 1) = 2 | fits(0, 0) = 1 0""");
        Runs.run(25, "those of PARTY 1", """
            things 1,0 1,18
            see(0, 1) = 1 | see(1, 0) = 2 | fits(1, 0) = 3 18 | point(1, 1, 19) = 18 | fits(1, 0) = 2 19
            point(1, 1, 20) = 19 | fits(1, 0) = 1 20 | point(1, 1, 21) = 20 | fits(1, 0) = 0 -5""");
        Runs.run(25, "not so, if there is no ADJUSTED: nothing else has POINTS", """
            things 9,5
            fits(0, 0) = 20 1 | fits(1, 0) = 20 1 | thing() = 1 | point(0, 1, 1) = 0 | fits(0, 0) = 21 0
            fits(1, 0) = 20 1""");
        Runs.run(25, "not so, if there is no ADJUSTED: the other one's ALL is 0", """
            things 9,0
            fits(0, 0) = 0 -5 | fits(1, 0) = 20 1 | see(0, 1) = 1 | fits(0, 0) = 0 -5 | fits(1, 0) = 20 1""");
        Runs.run(25, "it is asked: the POINTS stay as they were", """
            things 50,60 70,80
            fits(0, 0, 0) = 21 | of(0, 0) = 50 | fits(1, 1, 1) = 0 | of(1, 1) = 80 | all(0) = 120 | all(1) = 140
            fits(0, 0, 0) = 21""");
    }

    private static void fitsSeen() {
        Runs.run(25, "nothing SEEN: all fit", "things 5,6 7,8\nfits(0, 0) = 21 0 | fits(1, 0) = 21 0");
        Runs.run(25, "HOLD something: of what is SPLIT both do", """
            things 5,6
            see(0, 0) = 1 | see(0, 1) = 2 | fits(0, 0) = 20 1""");
        Runs.run(25, "all of SEEN: the fifth one too", """
            things 9,5 4,5 7,5 2,5 6,5
            see(0, 0) = 1 | see(1, 1) = 2 | see(2, 0) = 3 | see(3, 1) = 4 | fits(0, 0) = 17 4 | see(4, 1) = 5
            fits(0, 0) = 14 7""");
        Runs.run(25, "SEEN of one THING and of another", """
            things 9,1 1,9
            see(0, 0) = 1 | fits(0, 0) = 20 1 | see(-1, 0) = 0 | see(1, 0) = 1 | fits(0, 0) = 9 0 | see(0, 1) = 2
            fits(0, 0) = 1 0""");
    }

    private static void odds() {
        Runs.run(26, "NO: the THING", """
            odds(0) = NO NO
            things 5,6
            odds(1) = NO NO | odds(-1) = NO NO | odds(6) = NO NO | odds(MAX) = NO NO | odds(MIN) = NO NO | odds(0) = 1/1""");
        Runs.run(26, "NO: part", """
            things 5,6
            odds(0, 2) = NO | odds(0, -1) = NO | odds(0, MAX) = NO | odds(0, MIN) = NO | odds(0) = 1/1""");
        Runs.run(26, "POINTS 1, 2, .. 10: all of them", "things 0,1 0,1\nodds(0) = 1/1 | odds(1) = 1/1");
        Runs.run(26, "POINTS 1, 2, .. 10: all but 1, not 0", "things 0,1 1,1\nodds(0) = 9/10");
        Runs.run(26, "POINTS 1, 2, .. 10: 10 alone", "things 0,1 9,1\nodds(0) = 1/10");
        Runs.run(26, "POINTS 1, 2, .. 10: not 11", "things 11,1 10,1\nodds(0) = 0/1 | adjusted(0, 1, 0) = 0");
        Runs.run(26, "in lowest terms", "things 0,1 2,1\nodds(0) = 4/5 | point(0, 1, 5) = 2 | odds(0) = 1/2");
        Runs.run(26, "there is no ADJUSTED: it isn't SPLIT", "things 5,0\nodds(0) = 0/1 | point(1, 0, 1) = 0 | odds(0) = 1/1");
        Runs.run(26, "it is SPLIT, not another THING", """
            things 3,5 7,5 2,8 9,1 4,3 6,7
            odds(0) = 3/10 | odds(1) = 0/1 | odds(2) = 2/5 | odds(3) = 0/1 | odds(4) = 0/1 | odds(5) = 1/2""");
        Runs.run(26, "by ADJUSTED for 0, 1, POINTS of PARTY 0: others don't matter", """
            parties(3) = 2
            things 0,1,50 9,1,1
            odds(0) = 1/10 | point(2, 0, 0) = 50 | odds(0) = 1/10 | point(0, 0, 99) = 0 | odds(0) = 1/10 | of(0, 0) = 99""");
    }

    private static void mean() {
        Runs.run(27, "NO: there are no THINGS", "mean(0) = NO NO | mean(1) = NO NO | thing() = 0 | mean(0) = 0/1");
        Runs.run(27, "NO: the PARTY", """
            parties(3) = 2
            things 5,6,7
            mean(3) = NO NO | mean(-1) = NO NO | mean(MAX) = NO NO | mean(MIN) = NO NO | mean(2) = 7/1""");
        Runs.run(27, "NO: part", """
            things 5,6
            mean(0, 2) = NO | mean(0, -1) = NO | mean(0, MAX) = NO | mean(0, MIN) = NO | mean(0) = 5/1""");
        Runs.run(27, "ALL by how many THINGS there are, in lowest terms", """
            things 99,1 99,0 99,2 99,0 99,0 99,1
            mean(0) = 99/1 | mean(1) = 2/3 | point(0, 5, 98) = 99 | mean(0) = 593/6 | point(1, 5, 0) = 1 | mean(1) = 1/2
            point(1, 0, 0) = 1 | mean(1) = 1/3 | point(1, 2, 0) = 2 | mean(1) = 0/1""");
    }

    private static void event() {
        Runs.run(28, "8 rows at most; FULL", EIGHT_EVENTS + "event(3, 0) = -4 | event(3, 99) = -4 | count(1) = 8");
        Runs.run(28, "what -1: none then, 0, whatever the rest is", """
            event(3, 5) = 1 | event(-1, 0) = 0 | count(1) = 0 | event(3, 5) = 1 | event(-1, -1) = 0 | event(3, 5) = 1
            event(-1, MAX) = 0 | event(3, 5) = 1 | event(-1, MIN) = 0 | count(1) = 0 | event(-1, 100) = 0""");
        Runs.run(28, "what -1 when it is FULL: there is room then", EIGHT_EVENTS + "event(-1, 100) = 0 | count(1) = 0\n"
            + EIGHT_EVENTS + "event(3, 0) = -4");
        Runs.run(28, "NONE: what 0 .. 3", """
            thing() = 0
            event(4, 0) = -1 | event(-2, 0) = -1 | event(MAX, 0) = -1 | event(MIN, 0) = -1 | event(5, 0) = -1
            event(0, 0) = 1 | event(1, 0) = 2 | event(2, 0) = 3 | event(3, 0) = 4 | count(1) = 4""");
        Runs.run(28, "NONE: THING n, by 0, 1, 2", """
            event(0, 0) = -1 | event(1, 0) = -1 | event(2, 0) = -1
            thing() = 0 | thing() = 1
            event(0, 2) = -1 | event(1, 2) = -1 | event(2, 2) = -1 | event(0, -1) = -1 | event(1, -1) = -1 | event(2, -1) = -1
            event(0, MAX) = -1 | event(1, MIN) = -1 | event(2, 100) = -1 | event(0, 1) = 1 | event(1, 1) = 2
            event(2, 1) = 3""");
        Runs.run(28, "BAD: n by 3: 0 .. 99, also without THINGS", """
            event(3, -1) = -2 | event(3, 100) = -2 | event(3, MAX) = -2 | event(3, MIN) = -2 | count(1) = 0
            event(3, 0) = 1 | event(3, 99) = 2""");
    }

    private static void eventOrder() {
        Runs.run(28, "NONE of what goes ahead of BAD", "event(4, 100) = -1 | event(-2, -1) = -1 | event(3, 100) = -2");
        Runs.run(28, "NONE and BAD go ahead of FULL", "thing() = 0\n" + EIGHT_EVENTS
            + "event(4, 0) = -1 | event(0, 1) = -1 | event(1, -1) = -1 | event(2, 6) = -1 | event(3, 100) = -2 | event(3, -1) = -2"
            + " | event(0, 0) = -4 | event(1, 0) = -4 | event(2, 0) = -4 | event(3, 9) = -4");
    }

    private static void after() {
        Runs.run(29, "NO: what", """
            things 5,6
            after(-1) = NO | after(3) = NO | after(MAX) = NO | after(MIN) = NO | after() = 1 2 0""");
        Runs.run(29, "NO: there is no ADJUSTED", """
            after() = NO NO NO NO
            things 5,0
            after() = NO NO NO | point(1, 0, 1) = 0 | after() = 1 2 0 | event(0, 0) = 1 | after() = NO NO NO
            event(-1, 0) = 0 | event(1, 0) = 1 | after() = NO NO NO | event(-1, 0) = 0 | event(2, 0) = 1
            after() = NO NO NO | event(-1, 0) = 0 | after() = 1 2 0""");
        Runs.run(29, "-5: none is SPLIT", "things 6,4 4,6\nafter() = 3 5 -5");
        Runs.run(29, "3: all POINTS below n are 0: n itself stays", """
            things 7,5 4,6 3,0
            after() = 92 147 0 | event(3, 3) = 1 | after() = 92 147 0 | event(3, 4) = 2 | after() = 7 12 0
            event(3, 5) = 3 | after() = 11 16 0 | event(3, 6) = 4 | after() = 1 1 -5 | event(3, 7) = 5 | after() = NO NO NO
            event(-1, 0) = 0 | after() = 92 147 0""");
        Runs.run(29, "3: 0 and 99", """
            things 99,98 98,99
            event(3, 0) = 1 | after() = 99 197 -5 | event(3, 98) = 2 | after() = 99 197 -5 | event(3, 99) = 3
            after() = 1 1 -5""");
        Runs.run(29, "0: of PARTY 0 alone; 1: of PARTY 1 alone; 2: of both", """
            things 9,2 4,9
            after() = 117 161 1 | event(0, 0) = 1 | after() = 11 20 1 | event(-1, 0) = 0 | event(1, 0) = 1
            after() = 13 17 1 | event(-1, 0) = 0 | event(2, 0) = 1 | after() = 1 2 1""");
        Runs.run(29, "it is asked: the POINTS stay", """
            things 9,2 4,9
            event(2, 0) = 1 | event(3, 99) = 2 | after() = NO NO NO | of(0, 0) = 9 | of(1, 0) = 2 | of(0, 1) = 4 | of(1, 1) = 9
            adjusted(0, 1) = 1 3 2 0 1 | event(-1, 0) = 0 | after() = 117 161 1""");
    }

    private static void afterRows() {
        Runs.run(29, "behind all of it: the eighth row too", """
            things 9,2 4,9
            event(3, 0) = 1 | event(3, 0) = 2 | event(3, 0) = 3 | event(3, 0) = 4 | event(3, 0) = 5 | event(3, 0) = 6
            event(3, 0) = 7 | after() = 117 161 1 | event(2, 0) = 8 | after() = 1 2 1 | event(3, 99) = -4
            after() = 1 2 1""");
        Runs.run(29, "the same once more changes no more", """
            things 9,2 4,9
            event(2, 0) = 1 | after() = 1 2 1 | event(2, 0) = 2 | after() = 1 2 1 | event(0, 0) = 3 | event(1, 0) = 4
            after() = 1 2 1 | event(3, 4) = 5 | after() = 1 2 1 | event(3, 5) = 6 | after() = NO NO NO""");
        Runs.run(29, "of the last THING", """
            things 1,0 1,0 1,0 1,0 1,0 1,6
            event(1, 5) = 1 | after() = NO NO NO | event(-1, 0) = 0 | event(0, 5) = 1 | after() = 1 1 -5
            event(-1, 0) = 0 | event(2, 5) = 1 | after() = NO NO NO""");
        Runs.run(29, "POINTS of other PARTIES don't matter", """
            parties(3) = 2
            things 9,2,1 4,9,50
            event(3, 2) = 1 | after() = 117 161 1 | point(2, 0, 99) = 1 | after() = 117 161 1""");
    }

    private static void book() {
        Runs.run(30, "8 rows at most; FULL", "things 1,1 1,1\nhold(0, 0) = -5\n" + EIGHT_IN_BOOK
            + "book(0, 0) = -4 | book(1, 1) = -4 | count(2) = 8 | looked() = 7");
        Runs.run(30, "thing -1: it is empty then, 0, whatever the rest is", """
            things 1,1
            book(-1, 0) = 0 | book(0, 0) = 1 | book(-1, 2) = 0 | count(2) = 0 | looked() = -5 | book(0, 1) = 1
            book(-1, -1) = 0 | book(0, 1) = 1 | book(-1, MAX) = 0 | book(0, 1) = 1 | book(-1, MIN) = 0 | count(2) = 0""");
        Runs.run(30, "thing -1 when it is FULL: there is room then", "things 1,1\n" + EIGHT_IN_BOOK
            + "book(-1, 9) = 0 | count(2) = 0 | looked() = -5\n" + EIGHT_IN_BOOK + "book(0, 0) = -4");
        Runs.run(30, "NONE: the THING", """
            book(0, 0) = -1 | book(-1, 0) = 0
            things 1,1 1,1
            book(2, 0) = -1 | book(-2, 0) = -1 | book(6, 0) = -1 | book(MAX, 0) = -1 | book(MIN, 0) = -1 | count(2) = 0
            book(1, 0) = 1""");
        Runs.run(30, "NONE: the PARTY", """
            parties(3) = 2
            things 1,1,1
            book(0, 3) = -1 | book(0, -1) = -1 | book(0, 4) = -1 | book(0, MAX) = -1 | book(0, MIN) = -1 | count(2) = 0
            book(0, 2) = 1""");
        Runs.run(30, "NONE goes ahead of FULL", "things 1,1\n" + EIGHT_IN_BOOK
            + "book(1, 0) = -1 | book(-2, 0) = -1 | book(0, 2) = -1 | book(0, -1) = -1 | book(0, 0) = -4");
    }

    private static void looked() {
        Runs.run(31, "-5: the BOOK is empty", "looked() = -5 | thing() = 0 | looked() = -5");
        Runs.run(31, "-5: none of which that one HOLDS nothing: a PART is something", """
            thing() = 0
            book(0, 0) = 1 | book(0, 1) = 2 | looked() = 0 | hold(0, 0) = -5 | looked() = 1 | split(0, 1, 1, 99) = 1
            looked() = -5 | split(0, 1, 98, 99) = 1 | looked() = -5 | hold(0, 1) = 0 | looked() = 0""");
        Runs.run(31, "the first of these rows: number 0, and number 7", """
            thing() = 0 | thing() = 1
            hold(0, 0) = -5 | hold(1, 1) = -5 | book(0, 0) = 1 | book(1, 1) = 2 | book(0, 0) = 3 | book(1, 1) = 4
            book(0, 0) = 5 | book(1, 1) = 6 | book(0, 0) = 7 | book(0, 1) = 8 | looked() = 7 | hold(1, 0) = 1
            looked() = 1 | hold(0, 1) = 0 | looked() = 0""");
        Runs.run(31, "nobody HOLDS it", "thing() = 0 | book(0, 1) = 1 | looked() = 0 | hold(0, 1) = -5 | looked() = -5");
        Runs.run(31, "of the last PARTY and THING", """
            parties(4) = 2
            thing() = 0 | thing() = 1 | thing() = 2 | thing() = 3 | thing() = 4 | thing() = 5
            book(5, 3) = 1 | looked() = 0 | hold(5, 3) = -5 | looked() = -5""");
    }
}
