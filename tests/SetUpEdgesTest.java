/** Promises 1 to 10, sentence by sentence: the cases at each bound that the document names. */
public final class SetUpEdgesTest {
    public static void main(String[] args) {
        newObject();
        parties();
        partiesEmpty();
        thing();
        point();
        of();
        hold();
        holdOfSplit();
        splitNumbers();
        splitOrder();
        splitAnew();
        settle();
        settleAll();
        feed();
        readEnds();
        readSigns();
        readFourteen();
        readDone();
        readRefused();
        Check.end("SetUpEdgesTest");
    }

    private static void newObject() {
        Runs.run(1, "two PARTIES", "told(0) = 2 | all(1) = 0 | all(2) = -1 | share(0, 1) = 1/1 | share(0, 2) = NO NO");
        Runs.run(1, "no THINGS", """
            told() = 2 0 0 0 0 0
            of(0, 0) = -1 | holder(0) = -1 -1 | held(0, 0) = NO NO | fair(0) = -1 | ratio(0, 1, 0) = -1 | mean(0) = NO NO
            fits(0, 0) = -1 -1 | odds(0) = NO NO | hold(0, 0) = -1 | hold(0, -1) = -1 | point(0, 0, 1) = -1
            all(0) = 0 | all(1) = 0 | claim(0) = 1 10 -5 -5 | claim(1) = 1 10 -5 | better(0, 1) = -5
            adjusted(0, 1) = -3 -3 -3 -3 -3 | alike(0, 1) = NO NO | parted(0, 1) = NO NO | fairest() = 1/1
            after() = NO NO NO NO | settle(0, 1) = -3 | looked() = -5""");
        Runs.run(1, "SEEN, EVENTS, the BOOK and THE TEXT are empty", "count() = 0 0 0 0 | read() = -10");
        Runs.run(1, "TAPES 0 .. 5 hold nothing at first", """
            item(0, 0, 1) = -11 | item(1, 0, 1) = -11 | item(2, 0, 1) = -11 | item(3, 0, 1) = -11 | item(4, 0, 1) = -11
            item(5, 0, 1) = -11 | peek(0, 0) = NO | peek(5, 0) = NO | shift(0, 0, 5, 0, 0) = -11""");
        Runs.run(1, "there is no IMAGE", "undo() = -3");
    }

    private static void parties() {
        Runs.run(2, "n 2 .. 4", """
            parties(1) = -2 | parties(5) = -2 | parties(0) = -2 | parties(-1) = -2 | parties(MAX) = -2 | parties(MIN) = -2
            parties(4) = 2 | parties(2) = 4 | parties(3) = 2 | parties(2) = 3""");
        Runs.run(2, "what n was", "parties(2) = 2 | parties(3) = 2 | parties(3) = 3 | parties(4) = 3 | parties(2) = 4");
        Runs.run(2, "BAD changes nothing", """
            parties(3) = 2
            things 5,6,7 8,9,10
            hold(0, 2) = -5 | split(0, 1, 1, 2) = 1 | see(0, 0) = 1 | event(3, 7) = 1 | book(1, 2) = 1
            parties(1) = -2 | parties(5) = -2
            told() = 3 2 1 1 1 1 | of(2, 1) = 10 | held(1, 0) = 1/2 | count() = 1 1 1 0 | looked() = 0""");
        Runs.run(2, "PARTIES 0 .. n - 1: no more of them behind a smaller n", """
            parties(4) = 2
            thing() = 0 | point(3, 0, 7) = 0 | hold(0, 3) = -5
            parties(3) = 4
            thing() = 0 | point(2, 0, 1) = 0 | point(3, 0, 1) = -1 | of(2, 0) = 1 | of(3, 0) = -1 | hold(0, 3) = -1
            hold(0, 2) = -5 | split(0, 3, 1, 2) = -1 | held(3, 0) = NO NO | held(2, 0) = 1/1 | share(3, 0) = NO NO
            share(0, 3) = NO NO | claim(3, 0) = -1 | all(3) = -1 | all(2) = 1 | mean(3) = NO NO | mean(2) = 1/1
            better(0, 3) = -1 | better(3, 0) = -1 | settle(0, 3) = -1 | settle(3, 0) = -1 | adjusted(0, 3, 0) = -1
            alike(3, 0) = NO NO | parted(3, 0) = NO NO | ratio(0, 3, 0) = -1 | ratio(3, 0, 0) = -1 | book(0, 3) = -1
            book(0, 2) = 1""");
        Runs.run(2, "PARTIES 0 .. n - 1: more of them behind a greater n", """
            things 5,6
            point(2, 0, 1) = -1
            parties(4) = 2
            things 5,6,7,8
            of(3, 0) = 8 | all(3) = 8 | hold(0, 3) = -5 | share(3, 3) = 1/1 | claim(2, 0) = 3""");
    }

    private static void partiesEmpty() {
        Runs.run(2, "also if it stays: no THINGS", """
            things 5,6 7,8
            parties(2) = 2
            told() = 2 0 0 0 0 0 | of(0, 0) = -1 | of(1, 1) = -1 | all(0) = 0 | thing() = 0""");
        Runs.run(2, "SEEN, EVENTS, the BOOK are empty", """
            things 5,6
            see(0, 0) = 1 | event(0, 0) = 1 | book(0, 0) = 1 | book(0, 1) = 2 | looked() = 0
            parties(2) = 2
            count() = 0 0 0 0 | looked() = -5
            things 5,6
            looked() = -5 | fits(0, 0) = 20 1 | after() = 1 2 0 | see(0, 1) = 1 | event(3, 0) = 1 | book(0, 0) = 1""");
        Runs.run(2, "full rows are empty behind it", """
            thing() = 0
            see(0, 0) = 1 | see(0, 0) = 2 | see(0, 0) = 3 | see(0, 0) = 4 | see(0, 0) = 5 | see(0, 0) = -4
            parties(3) = 2
            thing() = 0 | see(0, 0) = 1 | count() = 1 0 0 0""");
        Runs.run(2, "no THING, so none is SPLIT and none has a HOLDER", """
            things 5,6 7,8
            hold(0, 0) = -5 | hold(1, 1) = -5 | split(1, 0, 1, 2) = 1
            parties(2) = 2
            told(2) = 0 | told(3) = 0 | thing() = 0 | thing() = 1 | told(2) = 0 | told(3) = 2 | of(0, 0) = 0 | of(1, 1) = 0
            holder(0) = -5 -5 | holder(1) = -5 -5 | held(0, 1) = 0/1 | hold(0, 0) = -5 | split(0, 1, 1, 3) = 1
            held(1, 0) = 1/3 | held(0, 0) = 2/3 | held(0, 1) = 0/1""");
        Runs.run(2, "THE TEXT and the TAPES are none of what it empties", """
            feed "t;t" = 3
            tape(1, 3, 2) = 1 | item(1, 1, -9) = 1
            parties(4) = 2
            count() = 0 0 0 3 | peek(1, 1) = -9 | read() = 2 | told(1) = 2""");
        Runs.run(2, "THE IMAGE is none of what it empties", """
            things 5,6
            image() = 1
            parties(3) = 2 | parties(2) = 3
            undo() = 1 | told(0) = 2 | of(1, 0) = 6""");
    }

    private static void thing() {
        Runs.run(3, "a THING comes: its number; FULL: 6", """
            thing() = 0 | thing() = 1 | thing() = 2 | thing() = 3 | thing() = 4 | thing() = 5
            thing() = -4 | thing() = -4 | told(1) = 6 | told(3) = 6""");
        Runs.run(3, "THINGS as they come: the next one is none yet", """
            thing() = 0 | of(0, 0) = 0 | of(0, 1) = -1 | hold(1, 0) = -1
            thing() = 1 | of(0, 1) = 0 | of(0, 2) = -1
            thing() = 2 | thing() = 3 | thing() = 4 | of(0, 5) = -1 | point(0, 5, 1) = -1 | holder(5) = -1 -1
            thing() = 5 | of(0, 5) = 0 | point(1, 5, 1) = 0 | hold(5, 1) = -5 | of(0, 6) = -1 | point(0, 6, 1) = -1
            hold(6, 0) = -1""");
        Runs.run(3, "POINTS are 0 as it comes, it has no HOLDER as it comes", """
            parties(4) = 2
            things 1,2,3,4
            hold(0, 3) = -5
            thing() = 1 | of(0, 1) = 0 | of(1, 1) = 0 | of(2, 1) = 0 | of(3, 1) = 0 | holder(1) = -5 -5
            held(0, 1) = 0/1 | held(3, 1) = 0/1 | told(3) = 1 | of(3, 0) = 4 | holder(0) = 3 -5""");
        Runs.run(3, "the number of a THING that was there comes without its POINTS and HOLDERS", """
            things 1,2 3,4
            hold(1, 0) = -5 | split(1, 1, 1, 2) = 1
            parties(2) = 2
            thing() = 0 | thing() = 1 | of(0, 1) = 0 | of(1, 1) = 0 | holder(1) = -5 -5 | told(2) = 0""");
        Runs.run(3, "FULL behind a set-up that is read, and changes nothing", """
            feed "t;t;t;t;t;t;p0599" = 17
            read() = 7 | thing() = -4 | of(0, 5) = 99 | told(1) = 6 | all(0) = 99""");
    }

    private static void point() {
        Runs.run(4, "POINTS 0 .. 99; what they were", """
            thing() = 0
            point(0, 0, 99) = 0 | point(0, 0, 0) = 99 | point(0, 0, 1) = 0 | point(0, 0, 98) = 1 | of(0, 0) = 98""");
        Runs.run(4, "BAD leaves them as they were", """
            things 7,8
            point(0, 0, 100) = -2 | point(0, 0, -1) = -2 | point(1, 0, MAX) = -2 | point(1, 0, MIN) = -2
            point(0, 0, 256) = -2 | point(0, 0, 127) = -2 | of(0, 0) = 7 | of(1, 0) = 8""");
        Runs.run(4, "NONE: the PARTY", """
            parties(3) = 2
            thing() = 0
            point(3, 0, 1) = -1 | point(-1, 0, 1) = -1 | point(2, 0, 1) = 0 | point(MAX, 0, 1) = -1 | point(MIN, 0, 1) = -1
            point(4, 0, 1) = -1 | told(1) = 1""");
        Runs.run(4, "NONE: the THING", """
            thing() = 0 | thing() = 1
            point(1, 2, 1) = -1 | point(1, -1, 1) = -1 | point(1, 1, 1) = 0 | point(1, 0, 1) = 0 | point(1, MAX, 1) = -1
            point(1, MIN, 1) = -1 | point(1, 5, 1) = -1 | point(1, 6, 1) = -1""");
        Runs.run(4, "NONE goes ahead of BAD", """
            thing() = 0
            point(2, 0, 100) = -1 | point(0, 1, -1) = -1 | point(-1, -1, 100) = -1 | point(0, 0, 100) = -2""");
        Runs.run(4, "POINTS of a PARTY for a THING, and no other ones", """
            parties(4) = 2
            thing() = 0 | thing() = 1
            point(3, 1, 9) = 0 | of(3, 0) = 0 | of(2, 1) = 0 | of(0, 0) = 0 | of(3, 1) = 9 | all(3) = 9 | all(2) = 0""");
        Runs.run(4, "THE DIVISION stays when POINTS change", """
            things 5,6 7,8
            settle(0, 1) = 1
            holder(1) = 0 1 | held(1, 1) = 13/97 | point(0, 1, 0) = 7 | holder(1) = 0 1 | held(1, 1) = 13/97""");
    }

    private static void of() {
        Runs.run(5, "NONE: the PARTY", """
            things 5,6
            of(0, 0) = 5 | of(1, 0) = 6 | of(2, 0) = -1 | of(-1, 0) = -1 | of(MAX, 0) = -1 | of(MIN, 0) = -1""");
        Runs.run(5, "NONE: the THING", """
            things 5,6 7,8
            of(0, 1) = 7 | of(0, 2) = -1 | of(0, -1) = -1 | of(0, 6) = -1 | of(0, MAX) = -1 | of(0, MIN) = -1""");
        Runs.run(5, "of the last PARTY for the last THING", """
            parties(4) = 2
            things 1,2,3,4 5,6,7,8 9,10,11,12 13,14,15,16 17,18,19,20 96,97,98,99
            of(3, 5) = 99 | of(3, 6) = -1 | of(4, 5) = -1 | of(4, 6) = -1""");
    }

    private static void hold() {
        Runs.run(6, "who was its (first) HOLDER (-5: none)", """
            thing() = 0
            hold(0, 0) = -5 | hold(0, 1) = 0 | hold(0, 1) = 1 | hold(0, -1) = 1 | hold(0, -1) = -5 | hold(0, 0) = -5""");
        Runs.run(6, "PARTY -1: nobody does", """
            things 5,6
            hold(0, 1) = -5 | hold(0, -1) = 1
            holder(0) = -5 -5 | held(1, 0) = 0/1 | held(0, 0) = 0/1 | told(3) = 1 | claim(1) = 2 10 6""");
        Runs.run(6, "NONE: the PARTY", """
            parties(3) = 2
            thing() = 0 | hold(0, 2) = -5
            hold(0, 3) = -1 | hold(0, -2) = -1 | hold(0, 4) = -1 | hold(0, -5) = -1 | hold(0, MAX) = -1 | hold(0, MIN) = -1
            holder(0) = 2 -5""");
        Runs.run(6, "NONE: the THING", """
            thing() = 0 | thing() = 1
            hold(2, 0) = -1 | hold(-1, 0) = -1 | hold(2, -1) = -1 | hold(-1, -1) = -1 | hold(MAX, 0) = -1 | hold(MIN, 0) = -1
            hold(6, 0) = -1 | hold(1, 0) = -5 | holder(0) = -5 -5 | holder(1) = 0 -5""");
        Runs.run(6, "whole: all that it HOLDS is 1", """
            parties(4) = 2
            thing() = 0 | hold(0, 3) = -5 | held(3, 0) = 1/1 | held(0, 0) = 0/1 | holder(0) = 3 -5 | told(2) = 0""");
    }

    private static void holdOfSplit() {
        Runs.run(6, "a THING that is SPLIT: who was its first HOLDER; whole then, none is SPLIT", """
            parties(3) = 2
            thing() = 0
            hold(0, 1) = -5 | split(0, 2, 1, 3) = 1 | hold(0, 0) = 1 | told(2) = 0 | holder(0) = 0 -5 | held(0, 0) = 1/1
            held(1, 0) = 0/1 | held(2, 0) = 0/1""");
        Runs.run(6, "its first HOLDER once more: whole", """
            thing() = 0
            hold(0, 1) = -5 | split(0, 0, 1, 3) = 1 | hold(0, 1) = 1 | told(2) = 0 | holder(0) = 1 -5 | held(1, 0) = 1/1
            held(0, 0) = 0/1""");
        Runs.run(6, "its second HOLDER: whole", """
            thing() = 0
            hold(0, 1) = -5 | split(0, 0, 1, 3) = 1 | hold(0, 0) = 1 | told(2) = 0 | holder(0) = 0 -5 | held(0, 0) = 1/1
            held(1, 0) = 0/1""");
        Runs.run(6, "nobody: neither HOLDER has anything of it", """
            thing() = 0
            hold(0, 1) = -5 | split(0, 0, 1, 3) = 1 | hold(0, -1) = 1 | told(2) = 0 | told(3) = 1 | holder(0) = -5 -5
            held(0, 0) = 0/1 | held(1, 0) = 0/1 | split(0, 0, 1, 3) = -3""");
        Runs.run(6, "another THING that is SPLIT stays so", """
            thing() = 0 | thing() = 1
            hold(0, 1) = -5 | split(0, 0, 2, 3) = 1 | hold(1, 0) = -5 | hold(1, -1) = 0 | hold(1, 1) = -5
            told(2) = 1 | holder(0) = 1 0 | held(0, 0) = 2/3 | held(1, 0) = 1/3 | held(1, 1) = 1/1""");
        Runs.run(6, "NONE leaves it SPLIT", """
            thing() = 0
            hold(0, 1) = -5 | split(0, 0, 2, 3) = 1 | hold(0, 2) = -1 | hold(0, -2) = -1 | hold(1, 0) = -1 | hold(-1, 0) = -1
            told(2) = 1 | held(0, 0) = 2/3""");
        Runs.run(6, "behind it another THING may be SPLIT", """
            thing() = 0 | thing() = 1
            hold(0, 1) = -5 | hold(1, 0) = -5 | split(0, 0, 2, 3) = 1 | split(1, 1, 1, 4) = -4 | hold(0, 0) = 1
            split(1, 1, 1, 4) = 1 | held(1, 1) = 1/4 | held(0, 1) = 3/4 | held(0, 0) = 1/1""");
    }

    private static void splitNumbers() {
        Runs.run(7, "up, low 1 .. 99 each, up below low", """
            thing() = 0 | hold(0, 0) = -5
            split(0, 1, 0, 1) = -2 | split(0, 1, 0, 99) = -2 | split(0, 1, -1, 2) = -2 | split(0, 1, MIN, 99) = -2
            split(0, 1, 1, 1) = -2 | split(0, 1, 2, 1) = -2 | split(0, 1, 99, 99) = -2 | split(0, 1, 98, 98) = -2
            split(0, 1, 1, 100) = -2 | split(0, 1, 99, 100) = -2 | split(0, 1, 98, 100) = -2 | split(0, 1, 100, 101) = -2
            split(0, 1, 1, MAX) = -2 | split(0, 1, 1, 0) = -2 | split(0, 1, 1, -1) = -2 | split(0, 1, -2, -1) = -2
            split(0, 1, 0, 0) = -2 | split(0, 1, 1, MIN) = -2 | split(0, 1, MAX, MIN) = -2 | split(0, 1, MAX, MAX) = -2
            told(2) = 0 | holder(0) = 0 -5 | held(0, 0) = 1/1""");
        Runs.run(7, "the least PART", """
            thing() = 0 | hold(0, 0) = -5 | split(0, 1, 1, 99) = 1 | held(1, 0) = 1/99 | held(0, 0) = 98/99""");
        Runs.run(7, "the greatest PART", """
            thing() = 0 | hold(0, 0) = -5 | split(0, 1, 98, 99) = 1 | held(1, 0) = 98/99 | held(0, 0) = 1/99""");
        Runs.run(7, "the least low", """
            thing() = 0 | hold(0, 0) = -5 | split(0, 1, 1, 2) = 1 | held(1, 0) = 1/2 | held(0, 0) = 1/2""");
        Runs.run(7, "in lowest terms", """
            thing() = 0 | hold(0, 0) = -5
            split(0, 1, 49, 98) = 1 | held(1, 0) = 1/2 | held(0, 0) = 1/2
            split(0, 1, 66, 99) = 1 | held(1, 0) = 2/3 | held(0, 0) = 1/3
            split(0, 1, 97, 98) = 1 | held(1, 0) = 97/98 | held(0, 0) = 1/98
            split(0, 1, 30, 75) = 1 | held(1, 0) = 2/5 | held(0, 0) = 3/5""");
    }

    private static void splitOrder() {
        Runs.run(7, "NONE: the THING", """
            thing() = 0 | hold(0, 0) = -5
            split(1, 1, 1, 2) = -1 | split(-1, 1, 1, 2) = -1 | split(6, 1, 1, 2) = -1 | split(MAX, 1, 1, 2) = -1
            split(MIN, 1, 1, 2) = -1 | split(0, 1, 1, 2) = 1""");
        Runs.run(7, "NONE: the PARTY", """
            parties(3) = 2
            thing() = 0 | hold(0, 0) = -5
            split(0, 3, 1, 2) = -1 | split(0, -1, 1, 2) = -1 | split(0, 4, 1, 2) = -1 | split(0, MAX, 1, 2) = -1
            split(0, MIN, 1, 2) = -1 | split(0, 2, 1, 2) = 1""");
        Runs.run(7, "NONE goes ahead of BAD", """
            thing() = 0
            split(1, 0, 0, 0) = -1 | split(0, 2, 2, 2) = -1 | split(-1, 0, 1, 100) = -1 | split(0, -1, 99, 1) = -1""");
        Runs.run(7, "BAD goes ahead of STATE", """
            thing() = 0
            split(0, 0, 0, 2) = -2 | split(0, 0, 2, 2) = -2 | split(0, 0, 1, 100) = -2 | hold(0, 0) = -5
            split(0, 0, 0, 2) = -2 | split(0, 0, 2, 2) = -2 | split(0, 0, 1, 100) = -2""");
        Runs.run(7, "STATE: it has no HOLDER", """
            thing() = 0
            split(0, 0, 1, 2) = -3 | split(0, 1, 1, 2) = -3 | told(2) = 0 | holder(0) = -5 -5""");
        Runs.run(7, "STATE: that is its first one", """
            thing() = 0 | hold(0, 1) = -5
            split(0, 1, 1, 2) = -3 | holder(0) = 1 -5 | split(0, 0, 1, 2) = 1 | split(0, 1, 1, 3) = -3 | held(0, 0) = 1/2
            holder(0) = 1 0""");
        Runs.run(7, "BAD goes ahead of FULL, STATE goes ahead of FULL", """
            thing() = 0 | thing() = 1 | thing() = 2
            hold(0, 0) = -5 | split(0, 1, 1, 2) = 1 | hold(1, 0) = -5
            split(1, 1, 2, 2) = -2 | split(2, 1, 1, 100) = -2 | split(1, 0, 1, 2) = -3 | split(2, 0, 1, 2) = -3
            split(1, 1, 1, 2) = -4 | told(2) = 1""");
        Runs.run(7, "NONE goes ahead of FULL", """
            thing() = 0 | thing() = 1
            hold(0, 0) = -5 | hold(1, 0) = -5 | split(0, 1, 1, 2) = 1 | split(2, 1, 1, 2) = -1 | split(1, 2, 1, 2) = -1
            split(1, 1, 1, 2) = -4""");
        Runs.run(7, "FULL: another THING is SPLIT; it changes nothing", """
            thing() = 0 | thing() = 1
            hold(0, 0) = -5 | hold(1, 1) = -5 | split(1, 0, 1, 3) = 1 | split(0, 1, 1, 2) = -4 | told(2) = 1
            holder(0) = 0 -5 | holder(1) = 1 0 | held(0, 0) = 1/1 | held(0, 1) = 1/3""");
    }

    private static void splitAnew() {
        Runs.run(7, "the THING that is SPLIT may be SPLIT anew: another part", """
            thing() = 0 | hold(0, 0) = -5
            split(0, 1, 1, 3) = 1 | split(0, 1, 3, 4) = 1 | told(2) = 1 | held(1, 0) = 3/4 | held(0, 0) = 1/4""");
        Runs.run(7, "the THING that is SPLIT may be SPLIT anew: another PARTY; the second one has nothing then", """
            parties(4) = 2
            thing() = 0 | hold(0, 0) = -5
            split(0, 1, 1, 3) = 1 | split(0, 3, 1, 4) = 1 | holder(0) = 0 3 | held(1, 0) = 0/1 | held(3, 0) = 1/4
            held(0, 0) = 3/4 | held(2, 0) = 0/1""");
        Runs.run(7, "how many THINGS are SPLIT", """
            things 1,1 1,1
            told(2) = 0 | hold(1, 1) = -5 | split(1, 0, 1, 2) = 1 | told(2) = 1 | split(1, 0, 1, 2) = 1 | told(2) = 1
            hold(1, 1) = 1 | told(2) = 0""");
        Runs.run(7, "one that ADJUSTED has SPLIT may be SPLIT anew, another one not", """
            things 5,6 7,8
            settle(0, 1) = 1 | holder(0) = 1 -5 | split(0, 0, 1, 2) = -4 | split(1, 1, 1, 2) = 1 | held(1, 1) = 1/2""");
    }

    private static void settle() {
        Runs.run(8, "NONE: i, j; one twice", """
            parties(3) = 2
            things 5,6,7
            settle(0, 3) = -1 | settle(3, 0) = -1 | settle(-1, 0) = -1 | settle(0, -1) = -1 | settle(0, 0) = -1
            settle(2, 2) = -1 | settle(MAX, 0) = -1 | settle(0, MIN) = -1 | settle(3, 3) = -1 | holder(0) = -5 -5
            settle(0, 2) = 0 | settle(2, 1) = 0""");
        Runs.run(8, "NONE goes ahead of STATE", """
            thing() = 0
            settle(0, 0) = -1 | settle(0, 2) = -1 | settle(-1, 1) = -1 | settle(0, 1) = -3 | settle(1, 0) = -3""");
        Runs.run(8, "STATE: ALL of i is 0", "things 0,6\nsettle(0, 1) = -3 | settle(1, 0) = -3 | holder(0) = -5 -5");
        Runs.run(8, "STATE: ALL of j is 0", "things 6,0\nsettle(0, 1) = -3 | settle(1, 0) = -3 | holder(0) = -5 -5");
        Runs.run(8, "STATE: there are no THINGS", "settle(0, 1) = -3");
        Runs.run(8, "ALL of each is 1: no STATE", """
            things 1,0 0,1
            settle(0, 1) = -5 | holder(0) = 0 -5 | holder(1) = 1 -5""");
        Runs.run(8, "STATE leaves THE DIVISION as it was", """
            parties(3) = 2
            things 1,1,0 2,2,0
            hold(0, 2) = -5 | split(0, 1, 2, 5) = 1 | hold(1, 2) = -5 | settle(0, 2) = -3 | settle(2, 1) = -3
            settle(1, 1) = -1 | holder(0) = 2 1 | held(1, 0) = 2/5 | holder(1) = 2 -5""");
        Runs.run(8, "-5: none is SPLIT, and it is SETTLED all the same", """
            things 6,4 4,6
            hold(0, 1) = -5 | settle(0, 1) = -5 | holder(0) = 0 -5 | holder(1) = 1 -5 | told(2) = 0""");
    }

    private static void settleAll() {
        Runs.run(8, "all THINGS: also what another one HOLDS, or nobody, or that is worth nothing to both", """
            parties(4) = 2
            things 5,3,9,9 3,5,9,9 0,0,9,9 2,2,9,9
            hold(0, 2) = -5 | hold(2, 3) = -5 | split(2, 2, 1, 2) = 1
            settle(0, 1) = 3 | holder(0) = 0 -5 | holder(1) = 1 -5 | holder(2) = 0 -5 | holder(3) = 0 1
            held(1, 3) = 1/2 | held(2, 0) = 0/1 | held(3, 2) = 0/1 | told(3) = 0 | told(2) = 1""");
        Runs.run(8, "what was SPLIT isn't, unless ADJUSTED does so", """
            things 5,3 3,5
            hold(0, 0) = -5 | split(0, 1, 1, 9) = 1 | settle(0, 1) = -5 | told(2) = 0 | held(0, 0) = 1/1 | held(1, 0) = 0/1
            held(0, 1) = 0/1""");
        Runs.run(8, "the first HOLDER of what is SPLIT is RICH, POOR has the PART, in lowest terms", """
            things 40,20 20,22
            settle(0, 1) = 0 | holder(0) = 0 1 | held(1, 0) = 1/8 | held(0, 0) = 7/8 | holder(1) = 1 -5
            share(0, 0) = 7/12 | share(1, 1) = 7/12""");
        Runs.run(8, "SETTLED for others, then for the first two again", """
            parties(3) = 2
            things 4,3,2 1,2,3
            settle(0, 1) = 0 | held(1, 0) = 2/7 | settle(1, 2) = -5 | holder(0) = 1 -5 | holder(1) = 2 -5
            settle(2, 0) = 0 | holder(0) = 0 2 | held(2, 0) = 1/6 | settle(0, 1) = 0 | held(1, 0) = 2/7
            holder(0) = 0 1 | holder(1) = 1 -5""");
    }

    private static void feed() {
        String full = "t;".repeat(50);
        Runs.run(9, "a sign 0 .. 127", """
            feed(-1) = -2 | feed(128) = -2 | feed(0) = 1 | feed(127) = 2 | feed(1) = 3 | feed(126) = 4 | feed(255) = -2
            feed(256) = -2 | feed(MAX) = -2 | feed(MIN) = -2 | count(3) = 4""");
        Runs.run(9, "how many it has: 100 at most; FULL", "feed \"" + full + "\" = 100\n"
            + "feed(116) = -4 | feed(0) = -4 | feed(127) = -4 | count(3) = 100");
        Runs.run(9, "BAD goes ahead of FULL", "feed \"" + full + "\" = 100\nfeed(-1) = -2 | feed(128) = -2 | feed(0) = -4");
        Runs.run(9, "behind THE TEXT's: what is FULL is read as it was, and there is room then", "feed \"" + full
            + "\" = 100\nfeed(48) = -4 | feed(128) = -2 | read() = -37 | count(3) = 0 | feed(116) = 1 | count(3) = 1"
            + " | read() = 1 | told(1) = 1");
        Runs.run(9, "BAD and FULL leave THE TEXT as it was", "feed \"t\" = 1\nfeed(128) = -2 | feed(-1) = -2 | count(3) = 1"
            + " | read() = 1 | told(1) = 1");
        Runs.run(9, "99 signs aren't FULL", "feed \"" + full.substring(1) + "\" = 99\nfeed(116) = 100 | feed(116) = -4");
        Runs.run(9, "a sign of 7 bits stays apart from all others", """
            feed(127) = 1 | read() = -10 | feed(0) = 1 | read() = -10 | feed(116) = 1 | feed(0) = 2 | read() = -11
            feed(116) = 1 | feed(127) = 2 | read() = -11 | feed(84) = 1 | read() = -10 | told(1) = 0""");
    }

    /** A text, and what read() answers. */
    private static String read(String text, int want) {
        return (text.isEmpty() ? "" : "feed \"" + text + "\" = " + text.length() + "\n") + "read() = " + want
            + " | count(3) = 0\n";
    }

    private static void readEnds() {
        Runs.run(10, "the end of THE TEXT, if it ends too early: it is empty", read("", -10) + read("", -10));
        Runs.run(10, "it ends too early: n", read("n", -11) + read("t;n", -13));
        Runs.run(10, "it ends too early: p", read("p", -11) + read("p0", -12) + read("p00", -13) + read("t;p00", -15));
        Runs.run(10, "it ends too early: h", read("h", -11) + read("h0", -12));
        Runs.run(10, "it ends too early: s", read("s", -11) + read("s0", -12));
        Runs.run(10, "it ends too early: behind a ;", read("t;", -12) + read("n3;", -13) + read("p001;", -15)
            + read("p0012;", -16) + read("h00;", -14) + read("s01;", -14));
        Runs.run(10, "it ends too early by the thirteenth ;", read("t;".repeat(13), -36));
        Runs.run(10, "by a FAULT nothing is done, and THE TEXT is empty", read("t;t;t;x", -16) + "told(1) = 0 | count(3) = 0\n"
            + read("t;t;t;", -16) + "told(1) = 0\n" + read("t", 1) + "told(1) = 1");
        Runs.run(10, "the FAULT is of the first byte with which none begins so, also if more are off",
            read("x;y;z", -10) + read("t;h0x;h", -14) + read("t t t", -11));
        Runs.run(10, "by a FAULT at the first place nothing is done", "things 1,1\n" + read("x01", -10) + read("S01", -10)
            + read(";01", -10) + "holder(0) = -5 -5 | told(1) = 1");
        Runs.run(10, "by a FAULT at the last place nothing is done", "things 1,1\n" + read("s01;", -14) + read("h00;x", -14)
            + read("h000", -13) + "holder(0) = -5 -5 | told(1) = 1");
        Runs.run(10, "by a FAULT what was there stays", """
            things 5,6
            hold(0, 1) = -5
            """ + read("n2;t;h00;s01;p0009;", -29) + "of(0, 0) = 5 | holder(0) = 1 -5 | told(1) = 1");
    }

    private static void readSigns() {
        Runs.run(10, "a CLAUSE begins with n, t, p, h or s, and no other sign", read("N3", -10) + read("m", -10)
            + read("o", -10) + read("q", -10) + read("r", -10) + read("u", -10) + read("g", -10) + read("i", -10)
            + read("T", -10) + read(";", -10) + read("0", -10) + read(" t", -10) + read("t;;t", -12) + read("t;0", -12));
        Runs.run(10, "n: a digit", read("n/", -11) + read("n:", -11) + read("nn", -11) + read("n;", -11) + read("n-", -11)
            + read("n2", 1) + read("n22", -12) + read("n2 ", -12));
        Runs.run(10, "t: nothing behind it", read("t0", -11) + read("tt", -11) + read("t ", -11) + read("t;t", 2));
        Runs.run(10, "p: i and THING, a digit each", "things 1,1\n" + read("p/00", -11) + read("p:00", -11) + read("p0/0", -12)
            + read("p0:0", -12) + read("p;", -11) + read("p0;", -12) + "of(0, 0) = 1");
        Runs.run(10, "p: POINTS, 1 or 2 digits", "things 1,1\n" + read("p00", -13) + read("p00/", -13) + read("p00:", -13)
            + read("p00;", -13) + read("p007", 1) + "of(0, 0) = 7\n" + read("p0099", 1) + "of(0, 0) = 99\n"
            + read("p00100", -15) + read("p000/", -14) + read("p000:", -14) + read("p0000/", -15) + read("p0007", 1)
            + "of(0, 0) = 7\n" + read("p0000", 1) + "of(0, 0) = 0\n" + read("p000", 1));
        Runs.run(10, "h: THING and i, a digit each", "thing() = 0\n" + read("h/0", -11) + read("h:0", -11) + read("h0/", -12)
            + read("h0:", -12) + read("h-1", -11) + read("h0-1", -12) + read("h000", -13) + read("h00", 1)
            + "holder(0) = 0 -5\n" + read("h01", 1) + "holder(0) = 1 -5");
        Runs.run(10, "s: i and j, a digit each", "things 1,0 0,1\n" + read("s/1", -11) + read("s:1", -11) + read("s0/", -12)
            + read("s0:", -12) + read("s011", -13) + read("s01", 1) + "holder(0) = 0 -5");
        Runs.run(10, "nothing else stands between (no blanks)", read("t ;t", -11) + read("t; t", -12) + read("t;t ", -13)
            + read("t,t", -11) + read("p0 0 5", -12) + read("p00 5", -13) + read("n 2", -11) + "told(1) = 0");
    }

    private static void readFourteen() {
        String t13 = "t;".repeat(13);
        Runs.run(10, "CLAUSES, 1", read("t", 1) + "told(1) = 1");
        Runs.run(10, "CLAUSES, 14", read(t13 + "n3", 7) + "told(0) = 3 | told(1) = 0");
        Runs.run(10, "none behind the fourteenth", read(t13 + "t;", -37) + "told(1) = 0\n" + read(t13 + "t;t", -37));
        Runs.run(10, "13 CLAUSES and a ; end too early", read(t13, -36) + read(t13.substring(0, 25), 6));
        Runs.run(10, "another sign behind the fourteenth", read(t13 + "tt", -37) + read(t13 + "n33", -38));
        Runs.run(10, "the longest set-up: 83 bytes", "things 1,1 1,1\n" + read("p0199;".repeat(13) + "p1198", 14)
            + "of(0, 1) = 99 | of(1, 1) = 98");
        Runs.run(10, "the FAULT at place 83", read("p0199;".repeat(13) + "p1198;", -93));
        Runs.run(10, "the FAULT at place 83 of 100 bytes", read("p0199;".repeat(16) + "p019", -93));
        Runs.run(10, "the FAULT at place 99, were there one, is behind the fourteenth: 100 bytes",
            read("p0199;".repeat(13) + "p1198" + "9".repeat(17), -93));
    }

    private static void readDone() {
        Runs.run(10, "one behind the other", read("t;p007;p019;t;p114;h01;h10", 6)
            + "told(1) = 2 | of(0, 1) = 0 | of(0, 0) = 7 | of(1, 1) = 4 | holder(0) = 1 -5 | holder(1) = 0 -5");
        Runs.run(10, "also those whose call answers -5: h", read("t;h00;h01", 3) + "holder(0) = 1 -5");
        Runs.run(10, "also those whose call answers -5: s", "things 1,0 0,1\n" + read("s01", 1) + "holder(1) = 1 -5");
        Runs.run(10, "n PARTIES empties within a set-up", read("t;p005;n2;t;t;p117", 6)
            + "told(1) = 2 | of(0, 0) = 0 | of(1, 1) = 7");
        Runs.run(10, "n PARTIES leaves THE TEXT that is read", read("n3;t;n4;t;n2;t;t", 7) + "told(0) = 2 | told(1) = 2");
        Runs.run(10, "THE TEXT is empty then: read once more", read("t", 1) + "read() = -10 | told(1) = 1 | read() = -10");
        Runs.run(10, "POINTS of 1 digit and of 2", read("t;p0004;p004", 3) + "of(0, 0) = 4 | told(1) = 1");
        Runs.run(10, "h: i HOLDS it whole, what is SPLIT as well", "things 1,1\n"
            + "hold(0, 0) = -5 | split(0, 1, 1, 2) = 1\n" + read("h00", 1) + "told(2) = 0 | held(0, 0) = 1/1");
    }

    private static void readRefused() {
        Runs.run(10, "those that would be refused aren't: n", "thing() = 0\n" + read("n1", 0) + read("n5", 0) + read("n0", 0)
            + read("n9", 0) + "told(0) = 2 | told(1) = 1\n" + read("n4", 1) + "told(0) = 4 | told(1) = 0\n" + read("n2", 1));
        Runs.run(10, "those that would be refused aren't: t", read("t;t;t;t;t;t;t;t", 6) + "told(1) = 6\n" + read("t", 0));
        Runs.run(10, "those that would be refused aren't: p", "things 1,1\n" + read("p205;p015;p905;p095", 0)
            + read("p005;p205;p106", 2) + "of(0, 0) = 5 | of(1, 0) = 6");
        Runs.run(10, "those that would be refused aren't: h", "things 1,1\n" + read("h02;h10;h09;h90", 0)
            + "holder(0) = -5 -5\n" + read("h02;h01", 1) + "holder(0) = 1 -5");
        Runs.run(10, "those that would be refused aren't: s, NONE", "things 1,1\n" + read("s00;s02;s20;s11;s99", 0)
            + "holder(0) = -5 -5\n" + read("s00;s01", 1) + "holder(0) = 0 1");
        Runs.run(10, "those that would be refused aren't: s, STATE", "things 1,0\n" + read("s01;s10", 0)
            + "holder(0) = -5 -5\n" + read("s01;p101;s01;s10", 3) + "holder(0) = 1 0");
        Runs.run(10, "none of 14 is done", "things 1,1\n" + read("h02;".repeat(13) + "h03", 0) + "holder(0) = -5 -5");
    }
}
