/** Promises 32 to 39, sentence by sentence: the cases at each bound that the document names. */
public final class TapesEdgesTest {
    public static void main(String[] args) {
        judgeRefusals();
        judgeNothing();
        judgePlaces();
        judgeHolders();
        image();
        undo();
        undoAll();
        imageOfBounds();
        count();
        tapeNumbers();
        tapeRows();
        item();
        itemKeeps();
        peek();
        shiftRefusals();
        shiftPlaces();
        shift();
        Check.end("TapesEdgesTest");
    }

    private static void judgeRefusals() {
        Runs.run(32, "NONE: the TAPE, also without THINGS", """
            judge(6, 0) = -1 | judge(-1, 0) = -1 | judge(MAX, 0) = -1 | judge(MIN, 0) = -1 | judge(6, -1) = -1
            thing() = 0 | judge(6, 0) = -1 | judge(-1, 0) = -1 | judge(5, 0) = 100""");
        Runs.run(32, "CAST: it is no row of longs", """
            tape(0, 0, 1) = 1 | tape(1, 1, 1) = 1 | tape(2, 2, 1) = 1 | tape(3, 4, 1) = 1 | tape(4, 3, 1) = 1
            judge(0, 0) = -12 | judge(1, 0) = -12 | judge(2, 0) = -12 | judge(3, 0) = -12 | judge(4, 0) = -5
            thing() = 0 | judge(0, 0) = -12 | judge(1, 0) = -12 | judge(2, 0) = -12 | judge(3, 0) = -12 | judge(4, 0) = 0
            judge(0, -1) = -12 | judge(3, 60) = -12""");
        Runs.run(32, "CAST: also of no items", """
            tape(0, 2, 0) = 1 | judge(0, 0) = -12 | thing() = 0 | judge(0, 0) = -12 | tape(0, -1, 0) = 1
            judge(0, 0) = 100 | tape(0, 3, 0) = 1 | judge(0, 0) = 100""");
    }

    private static void judgeNothing() {
        Runs.run(32, "-5: no THINGS, also if it holds nothing", """
            judge(0, 0) = -5 | judge(5, -1) = -5 | judge(0, MAX) = -5 | tape(0, 3, 2) = 1 | judge(0, 0) = -5
            judge(0, 2) = -5 | judge(0, -1) = -5 | tape(0, 3, 0) = 1 | judge(0, 0) = -5""");
        Runs.run(32, "100: the TAPE holds nothing", """
            thing() = 0 | hold(0, 0) = -5
            judge(0, 0) = 100 | judge(5, 1) = 100 | judge(0, -1) = 100 | judge(0, MAX) = 100 | judge(0, MIN) = 100
            tape(0, 3, 1) = 1 | judge(0, 0) = -5 | tape(0, -1, 1) = 1 | judge(0, 0) = 100""");
        Runs.run(32, "100: a row of no items", "thing() = 0 | tape(0, 3, 0) = 1 | judge(0, 0) = 100 | judge(0, 1) = 100");
    }

    private static void judgePlaces() {
        Runs.run(32, "100: the place is below 0", """
            thing() = 0 | hold(0, 0) = -5 | tape(0, 3, 3) = 1
            judge(0, -1) = 100 | judge(0, -2) = 100 | judge(0, MIN) = 100 | judge(0, 0) = -5""");
        Runs.run(32, "100 and how many were looked at, if the row ends ahead of that", """
            thing() = 0 | thing() = 1 | thing() = 2 | hold(0, 0) = -5 | hold(1, 0) = -5 | hold(2, 0) = -5
            tape(0, 3, 4) = 1 | judge(0, 0) = -5 | judge(0, 1) = -5 | judge(0, 2) = 102 | judge(0, 3) = 101
            judge(0, 4) = 100 | judge(0, 5) = 100 | judge(0, MAX) = 100 | hold(1, 1) = 0 | judge(0, 2) = 1
            judge(0, 3) = 101 | hold(0, 1) = 0 | judge(0, 3) = 0 | judge(0, 4) = 100""");
        Runs.run(32, "6 THINGS in a row of 60 longs", """
            thing() = 0 | thing() = 1 | thing() = 2 | thing() = 3 | thing() = 4 | thing() = 5
            hold(0, 1) = -5 | hold(1, 1) = -5 | hold(2, 1) = -5 | hold(3, 1) = -5 | hold(4, 1) = -5 | hold(5, 1) = -5
            tape(5, 3, 60) = 1 | judge(5, 54) = 0 | item(5, 54, 1) = 1 | judge(5, 54) = 1 | item(5, 55, 1) = 1
            item(5, 56, 1) = 1 | item(5, 57, 1) = 1 | item(5, 58, 1) = 1 | judge(5, 54) = 5 | judge(5, 55) = 4
            item(5, 59, 1) = 1 | judge(5, 54) = -5 | judge(5, 55) = 105 | judge(5, 56) = 104 | judge(5, 59) = 101
            judge(5, 60) = 100 | judge(5, 61) = 100""");
    }

    private static void judgeHolders() {
        Runs.run(32, "none: -1, and no other number", """
            thing() = 0 | tape(0, 3, 1) = 1 | judge(0, 0) = 0 | item(0, 0, -1) = 1 | judge(0, 0) = -5 | item(0, 0, -5) = 1
            judge(0, 0) = 0 | item(0, 0, -2) = 1 | judge(0, 0) = 0 | item(0, 0, 0xFFFFFFFF) = 1 | judge(0, 0) = 0
            item(0, 0, -1) = 1 | hold(0, 0) = -5 | judge(0, 0) = 0""");
        Runs.run(32, "all of a long counts", """
            thing() = 0 | hold(0, 1) = -5 | tape(0, 3, 1) = 1 | item(0, 0, 0x100000001) = 1 | judge(0, 0) = 0
            item(0, 0, LMAX) = 1 | judge(0, 0) = 0 | item(0, 0, LMIN) = 1 | judge(0, 0) = 0 | item(0, 0, 1) = 1
            judge(0, 0) = -5""");
        Runs.run(32, "(first) HOLDERS: not the second one", """
            thing() = 0 | hold(0, 1) = -5 | split(0, 0, 98, 99) = 1 | tape(0, 3, 1) = 1 | judge(0, 0) = 0
            item(0, 0, 1) = 1 | judge(0, 0) = -5 | hold(0, 0) = 1 | judge(0, 0) = 0""");
        Runs.run(32, "the first THING that has another", """
            parties(4) = 2
            thing() = 0 | thing() = 1 | thing() = 2 | hold(0, 3) = -5 | hold(1, 2) = -5
            tape(2, 3, 3) = 1 | item(2, 0, 3) = 1 | item(2, 1, 2) = 1 | item(2, 2, -1) = 1 | judge(2, 0) = -5
            item(2, 2, 0) = 1 | judge(2, 0) = 2 | item(2, 1, 0) = 1 | judge(2, 0) = 1 | item(2, 0, 0) = 1 | judge(2, 0) = 0""");
        Runs.run(32, "it is asked: TAPE and THE DIVISION stay", """
            thing() = 0 | hold(0, 1) = -5 | tape(0, 3, 1) = 1 | judge(0, 0) = 0 | peek(0, 0) = 0 | holder(0) = 1 -5
            judge(0, 0) = 0""");
    }

    private static void image() {
        Runs.run(33, "how many THINGS there are: 0 to 6", """
            image() = 0 | thing() = 0 | image() = 1 | image() = 1 | thing() = 1 | thing() = 2 | thing() = 3 | thing() = 4
            thing() = 5 | image() = 6 | thing() = -4 | image() = 6 | parties(2) = 2 | image() = 0 | told(1) = 0""");
        Runs.run(33, "it is taken anew: the first one is gone", """
            things 5,6
            image() = 1 | point(0, 0, 7) = 5 | image() = 1 | point(0, 0, 8) = 7 | undo() = 1 | of(0, 0) = 7 | undo() = 1
            of(0, 0) = 7""");
        Runs.run(33, "an IMAGE of nothing is one", """
            image() = 0 | thing() = 0 | undo() = 0 | told(1) = 0 | parties(4) = 2 | undo() = 0 | told(0) = 2""");
        Runs.run(33, "it changes nothing else", """
            things 5,6
            hold(0, 0) = -5 | split(0, 1, 1, 3) = 1 | see(0, 0) = 1 | event(3, 1) = 1 | book(0, 0) = 1 | feed(116) = 1
            image() = 1 | told(2) = 1 | held(1, 0) = 1/3 | of(1, 0) = 6 | count() = 1 1 1 1""");
    }

    private static void undo() {
        Runs.run(34, "STATE: there is none; it changes nothing", """
            undo() = -3
            things 5,6
            undo() = -3 | of(0, 0) = 5 | told(1) = 1 | parties(3) = 2 | undo() = -3 | told(0) = 3 | image() = 0 | undo() = 0""");
        Runs.run(34, "STATE behind parties and all else, but for image", """
            feed "t;n3;t" = 6
            read() = 3 | undo() = -3 | tape(0, 3, 1) = 1 | undo() = -3 | told(0) = 3""");
        Runs.run(34, "how many THINGS, and once more", """
            things 5,6 7,8
            image() = 2 | parties(4) = 2 | undo() = 2 | undo() = 2 | told(0) = 2 | of(1, 1) = 8 | thing() = 2 | undo() = 2
            of(0, 2) = -1""");
        Runs.run(34, "THE IMAGE stays as it was, whatever is done behind undo", """
            things 5,6
            hold(0, 0) = -5 | image() = 1 | undo() = 1 | point(0, 0, 99) = 5 | hold(0, 1) = 0 | thing() = 1 | see(1, 1) = 1
            event(0, 1) = 1 | book(1, 1) = 1 | undo() = 1 | of(0, 0) = 5 | holder(0) = 0 -5 | told(1) = 1
            count() = 0 0 0 0 | thing() = 1 | of(0, 1) = 0 | holder(1) = -5 -5""");
        Runs.run(34, "a THING that comes behind undo is as one that comes", """
            things 5,6
            image() = 1 | thing() = 1 | point(0, 1, 9) = 0 | hold(1, 1) = -5 | split(1, 0, 1, 2) = 1 | undo() = 1
            thing() = 1 | of(0, 1) = 0 | holder(1) = -5 -5 | held(0, 1) = 0/1 | told(2) = 0""");
    }

    private static void undoAll() {
        Runs.run(34, "n, THINGS, POINTS", """
            parties(3) = 2
            things 1,2,3 4,5,6
            image() = 2 | parties(4) = 3 | thing() = 0 | point(3, 0, 9) = 0 | undo() = 2 | told(0) = 3 | told(1) = 2
            of(0, 0) = 1 | of(1, 0) = 2 | of(2, 0) = 3 | of(0, 1) = 4 | of(1, 1) = 5 | of(2, 1) = 6 | of(3, 0) = -1
            of(0, 2) = -1""");
        Runs.run(34, "THE DIVISION: HOLDERS, the PART, or that none is SPLIT", """
            parties(3) = 2
            thing() = 0 | thing() = 1
            hold(0, 2) = -5 | image() = 2 | split(0, 1, 1, 2) = 1 | hold(1, 0) = -5 | undo() = 2 | told(2) = 0 | told(3) = 1
            holder(0) = 2 -5 | holder(1) = -5 -5 | held(1, 0) = 0/1 | held(2, 0) = 1/1
            split(0, 1, 5, 15) = 1 | image() = 2 | hold(0, 0) = 2 | hold(1, 1) = -5 | split(1, 2, 1, 2) = 1 | undo() = 2
            told(2) = 1 | holder(0) = 2 1 | held(1, 0) = 1/3 | held(2, 0) = 2/3 | holder(1) = -5 -5
            hold(1, 0) = -5 | split(1, 1, 1, 2) = -4""");
        Runs.run(34, "SEEN", """
            things 9,1 1,9
            see(1, 0) = 1 | fits(0, 0) = 9 0 | image() = 2 | see(-1, 0) = 0 | see(0, 0) = 1 | see(0, 0) = 2 | fits(0, 0) = 20 1
            undo() = 2 | count(0) = 1 | fits(0, 0) = 9 0 | see(0, 1) = 2 | fits(0, 0) = 1 0""");
        Runs.run(34, "EVENTS", """
            things 9,2 4,9
            event(2, 0) = 1 | after() = 1 2 1 | image() = 2 | event(-1, 0) = 0 | event(3, 0) = 1 | event(3, 1) = 2
            after() = 117 161 1 | undo() = 2 | count(1) = 1 | after() = 1 2 1 | event(3, 0) = 2""");
        Runs.run(34, "the BOOK", """
            thing() = 0 | hold(0, 0) = -5
            book(0, 0) = 1 | book(0, 1) = 2 | looked() = 1 | image() = 1 | book(-1, 0) = 0 | book(0, 1) = 1 | looked() = 0
            undo() = 1 | count(2) = 2 | looked() = 1 | book(0, 0) = 3""");
        Runs.run(34, "THE TEXT and the TAPES are not in THE IMAGE", """
            feed "t;" = 2
            tape(0, 3, 2) = 1 | item(0, 1, 7) = 1 | image() = 0
            feed "n3" = 4
            item(0, 1, 8) = 1 | tape(1, 0, 1) = 1 | tape(2, 0, 0) = 1 | undo() = 0 | count(3) = 4 | peek(0, 1) = 8
            peek(1, 0) = 0 | item(2, 0, 1) = -13 | read() = 2 | told(0) = 3 | undo() = 0 | count(3) = 0 | told(0) = 2""");
    }

    private static void imageOfBounds() {
        Runs.run(34, "all that can be full", """
            parties(4) = 2
            things 1,2,3,4 5,6,7,8 9,10,11,12 13,14,15,16 17,18,19,20 96,97,98,99
            hold(5, 3) = -5 | split(5, 0, 98, 99) = 1
            see(5, 0) = 1 | see(5, 0) = 2 | see(5, 0) = 3 | see(5, 0) = 4 | see(5, 1) = 5
            event(3, 0) = 1 | event(3, 0) = 2 | event(3, 0) = 3 | event(3, 0) = 4 | event(3, 0) = 5 | event(3, 0) = 6
            event(3, 0) = 7 | event(2, 5) = 8 | after() = 327 640 3
            book(5, 3) = 1 | book(5, 3) = 2 | book(5, 3) = 3 | book(5, 3) = 4 | book(5, 3) = 5 | book(5, 3) = 6
            book(5, 3) = 7 | book(5, 2) = 8 | looked() = 7
            image() = 6 | parties(2) = 4 | thing() = 0 | undo() = 6 | of(3, 5) = 99 | of(0, 0) = 1 | held(0, 5) = 98/99
            holder(5) = 3 0 | count() = 5 8 8 0 | looked() = 7 | after() = 327 640 3 | thing() = -4 | see(0, 0) = -4
            event(3, 0) = -4 | book(0, 0) = -4""");
        Runs.run(34, "what was empty is empty", """
            image() = 0
            things 5,6
            see(0, 0) = 1 | event(3, 1) = 1 | book(0, 0) = 1 | undo() = 0 | count() = 0 0 0 0 | told() = 2 0 0 0 0 0
            looked() = -5 | thing() = 0 | see(0, 1) = 1 | event(3, 1) = 1 | book(0, 0) = 1""");
    }

    private static void count() {
        Runs.run(35, "BAD", "count(-1) = -2 | count(4) = -2 | count(MAX) = -2 | count(MIN) = -2 | count(0) = 0 | count(3) = 0");
        Runs.run(35, "0 SEEN, 1 EVENTS, 2 of the BOOK, 3 bytes of THE TEXT: one by one", """
            thing() = 0
            see(0, 0) = 1 | count() = 1 0 0 0 | event(3, 1) = 1 | event(3, 1) = 2 | count() = 1 2 0 0 | book(0, 0) = 1
            book(0, 0) = 2 | book(0, 0) = 3 | count() = 1 2 3 0
            feed "t;t;" = 4
            count() = 1 2 3 4 | read() = -14 | count() = 1 2 3 0 | see(-1, 0) = 0 | count() = 0 2 3 0 | event(-1, 0) = 0
            count() = 0 0 3 0 | book(-1, 0) = 0 | count() = 0 0 0 0""");
    }

    private static void tapeNumbers() {
        Runs.run(36, "NONE: TAPES 0 .. 5", """
            tape(6, 0, 1) = -1 | tape(-1, 0, 1) = -1 | tape(MAX, 0, 1) = -1 | tape(MIN, 0, 1) = -1 | tape(6, -1, 0) = -1
            tape(0, 0, 1) = 1 | tape(5, 0, 1) = 1 | peek(5, 0) = 0 | peek(0, 0) = 0 | peek(4, 0) = NO""");
        Runs.run(36, "BAD: sorts 0 .. 4, -1", """
            tape(0, 5, 1) = -2 | tape(0, -2, 1) = -2 | tape(0, MAX, 1) = -2 | tape(0, MIN, 1) = -2 | peek(0, 0) = NO
            tape(0, 0, 1) = 1 | tape(0, 4, 1) = 1 | tape(0, -1, 1) = 1""");
        Runs.run(36, "BAD: n above 60", """
            tape(0, 3, 61) = -2 | tape(0, 3, MAX) = -2 | peek(0, 0) = NO | tape(0, 3, 60) = 1 | peek(0, 59) = 0
            peek(0, 60) = NO | tape(0, 0, 61) = -2 | tape(0, 4, 61) = -2 | item(0, 59, LMAX) = 1 | peek(0, 59) = LMAX""");
        Runs.run(36, "SIZE: a size below 0", """
            tape(0, 3, -1) = -14 | tape(0, 0, MIN) = -14 | item(0, 0, 1) = -11 | tape(0, 4, -60) = -14 | tape(0, 3, 0) = 1
            item(0, 0, 1) = -13""");
        Runs.run(36, "NONE goes ahead of BAD, BAD ahead of SIZE", """
            tape(6, 5, 61) = -1 | tape(-1, 0, -1) = -1 | tape(0, 5, -1) = -2 | tape(0, -2, -1) = -2 | tape(0, 5, 61) = -2
            tape(6, 0, 61) = -1 | tape(0, 0, -1) = -14""");
        Runs.run(36, "sort -1: n does not matter", """
            tape(0, 3, 2) = 1 | tape(0, -1, 61) = 1 | peek(0, 0) = NO | tape(0, 3, 2) = 1 | tape(0, -1, -1) = 1
            item(0, 0, 1) = -11 | tape(0, 3, 2) = 1 | tape(0, -1, MAX) = 1 | item(0, 0, 1) = -11 | tape(0, -1, MIN) = 1
            tape(0, -1, 60) = 1 | peek(0, 0) = NO | item(0, 0, 1) = -11 | shift(0, 0, 0, 0, 0) = -11""");
        Runs.run(36, "what is refused leaves the TAPE as it was", """
            tape(0, 1, 3) = 1 | item(0, 2, 77) = 1 | tape(0, 5, 3) = -2 | tape(0, 1, 61) = -2 | tape(0, 2, -1) = -14
            tape(0, -2, 0) = -2 | peek(0, 2) = 77 | peek(0, 3) = NO | item(0, 2, 32768) = 1 | peek(0, 2) = -32768""");
    }

    private static void tapeRows() {
        Runs.run(36, "a row of 0: no place, but no nothing", """
            tape(0, 2, 0) = 1 | peek(0, 0) = NO | item(0, 0, 1) = -13 | shift(0, 0, 0, 0, 0) = 0 | shift(0, 0, 1, 0, 0) = -11
            shift(0, 0, 0, 0, 1) = -13""");
        Runs.run(36, "all 0, also what was a row", """
            tape(0, 3, 3) = 1 | item(0, 0, 1) = 1 | item(0, 2, 3) = 1 | tape(0, 3, 3) = 1 | peek(0, 0) = 0 | peek(0, 1) = 0
            peek(0, 2) = 0 | item(0, 2, 9) = 1 | tape(0, 3, 1) = 1 | peek(0, 1) = NO | tape(0, 3, 3) = 1 | peek(0, 2) = 0""");
        Runs.run(36, "all 0, also what held something ahead of nothing", """
            tape(0, 3, 60) = 1 | item(0, 59, 5) = 1 | tape(0, -1, 0) = 1 | tape(0, 3, 60) = 1 | peek(0, 59) = 0""");
        Runs.run(36, "of a sort, then of another one", """
            tape(0, 0, 1) = 1 | item(0, 0, 128) = 1 | peek(0, 0) = -128 | tape(0, 1, 1) = 1 | item(0, 0, 128) = 1
            peek(0, 0) = 128 | tape(0, 4, 1) = 1 | item(0, 0, 128) = 1 | peek(0, 0) = 1 | tape(0, 3, 1) = 1
            item(0, 0, LMIN) = 1 | peek(0, 0) = LMIN | tape(0, 2, 1) = 1 | item(0, 0, LMIN) = 1 | peek(0, 0) = 0""");
        Runs.run(36, "each TAPE by itself", """
            tape(0, 3, 2) = 1 | tape(1, 3, 2) = 1 | item(0, 0, 5) = 1 | peek(1, 0) = 0 | tape(1, -1, 0) = 1 | peek(0, 0) = 5
            tape(5, 0, 1) = 1 | peek(0, 0) = 5 | peek(4, 0) = NO""");
    }

    private static void item() {
        Runs.run(37, "NONE: the TAPE", """
            item(6, 0, 1) = -1 | item(-1, 0, 1) = -1 | item(MAX, 0, 1) = -1 | item(MIN, -1, 1) = -1 | tape(5, 3, 1) = 1
            item(5, 0, 1) = 1""");
        Runs.run(37, "NOTHING goes ahead of PLACE", """
            item(0, -1, 1) = -11 | item(0, 60, 1) = -11 | item(0, 0, 1) = -11 | tape(0, 3, 1) = 1 | item(0, -1, 1) = -13
            item(0, 60, 1) = -13""");
        Runs.run(37, "PLACE", """
            tape(0, 3, 3) = 1 | item(0, 3, 1) = -13 | item(0, -1, 1) = -13 | item(0, 59, 1) = -13 | item(0, MAX, 1) = -13
            item(0, MIN, 1) = -13 | item(0, 0, 7) = 1 | item(0, 2, 9) = 1 | peek(0, 0) = 7 | peek(0, 1) = 0 | peek(0, 2) = 9""");
        Runs.run(37, "item 59 of 60", """
            tape(0, 2, 60) = 1 | item(0, 59, 4) = 1 | item(0, 60, 4) = -13 | peek(0, 59) = 4 | peek(0, 58) = 0""");
    }

    private static void itemKeeps() {
        Runs.run(37, "its lowest bits: a byte", """
            tape(0, 0, 1) = 1
            item(0, 0, 127) = 1 | peek(0, 0) = 127 | item(0, 0, 128) = 1 | peek(0, 0) = -128 | item(0, 0, -128) = 1
            peek(0, 0) = -128 | item(0, 0, -129) = 1 | peek(0, 0) = 127 | item(0, 0, 255) = 1 | peek(0, 0) = -1
            item(0, 0, 256) = 1 | peek(0, 0) = 0 | item(0, 0, 257) = 1 | peek(0, 0) = 1 | item(0, 0, LMAX) = 1 | peek(0, 0) = -1
            item(0, 0, LMIN) = 1 | peek(0, 0) = 0 | item(0, 0, -1) = 1 | peek(0, 0) = -1""");
        Runs.run(37, "its lowest bits: a short", """
            tape(0, 1, 1) = 1
            item(0, 0, 32767) = 1 | peek(0, 0) = 32767 | item(0, 0, 32768) = 1 | peek(0, 0) = -32768 | item(0, 0, -32768) = 1
            peek(0, 0) = -32768 | item(0, 0, -32769) = 1 | peek(0, 0) = 32767 | item(0, 0, 65535) = 1 | peek(0, 0) = -1
            item(0, 0, 65536) = 1 | peek(0, 0) = 0 | item(0, 0, 65793) = 1 | peek(0, 0) = 257 | item(0, 0, LMAX) = 1
            peek(0, 0) = -1 | item(0, 0, LMIN) = 1 | peek(0, 0) = 0""");
        Runs.run(37, "its lowest bits: an int", """
            tape(0, 2, 1) = 1
            item(0, 0, MAX) = 1 | peek(0, 0) = MAX | item(0, 0, 0x80000000) = 1 | peek(0, 0) = MIN | item(0, 0, MIN) = 1
            peek(0, 0) = MIN | item(0, 0, -2147483649) = 1 | peek(0, 0) = MAX | item(0, 0, 0xFFFFFFFF) = 1 | peek(0, 0) = -1
            item(0, 0, 0x100000000) = 1 | peek(0, 0) = 0 | item(0, 0, 0x100010001) = 1 | peek(0, 0) = 65537
            item(0, 0, LMAX) = 1 | peek(0, 0) = -1 | item(0, 0, LMIN) = 1 | peek(0, 0) = 0""");
        Runs.run(37, "a long keeps all", """
            tape(0, 3, 1) = 1
            item(0, 0, LMAX) = 1 | peek(0, 0) = LMAX | item(0, 0, LMIN) = 1 | peek(0, 0) = LMIN | item(0, 0, -1) = 1
            peek(0, 0) = -1 | item(0, 0, 0x100000000) = 1 | peek(0, 0) = 0x100000000 | item(0, 0, LMIN) = 1
            peek(0, 0) = NO""");
        Runs.run(37, "booleans: whether v is not 0", """
            tape(0, 4, 1) = 1
            item(0, 0, 1) = 1 | peek(0, 0) = 1 | item(0, 0, 0) = 1 | peek(0, 0) = 0 | item(0, 0, 2) = 1 | peek(0, 0) = 1
            item(0, 0, -1) = 1 | peek(0, 0) = 1 | item(0, 0, 256) = 1 | peek(0, 0) = 1 | item(0, 0, 0x100000000) = 1
            peek(0, 0) = 1 | item(0, 0, LMIN) = 1 | peek(0, 0) = 1 | item(0, 0, LMAX) = 1 | peek(0, 0) = 1
            item(0, 0, 0) = 1 | peek(0, 0) = 0""");
    }

    private static void peek() {
        Runs.run(38, "NO: no such TAPE", """
            peek(6, 0) = NO | peek(-1, 0) = NO | peek(MAX, 0) = NO | peek(MIN, 0) = NO | tape(5, 0, 1) = 1 | peek(5, 0) = 0""");
        Runs.run(38, "NO: nothing there", """
            peek(0, 0) = NO | peek(0, -1) = NO | tape(0, 0, 1) = 1 | peek(0, 0) = 0 | tape(0, -1, 0) = 1 | peek(0, 0) = NO""");
        Runs.run(38, "NO: no such place", """
            tape(0, 0, 2) = 1 | peek(0, 2) = NO | peek(0, -1) = NO | peek(0, 59) = NO | peek(0, 60) = NO | peek(0, MAX) = NO
            peek(0, MIN) = NO | peek(0, 0) = 0 | peek(0, 1) = 0 | tape(0, 0, 0) = 1 | peek(0, 0) = NO""");
    }

    private static void shiftRefusals() {
        Runs.run(39, "NONE: TAPES", """
            tape(0, 3, 2) = 1 | tape(5, 3, 2) = 1
            shift(6, 0, 0, 0, 1) = -1 | shift(0, 0, 6, 0, 1) = -1 | shift(-1, 0, 0, 0, 1) = -1 | shift(0, 0, -1, 0, 1) = -1
            shift(MAX, 0, 0, 0, 1) = -1 | shift(0, 0, MIN, 0, 1) = -1 | shift(6, 0, 6, 0, 0) = -1 | shift(0, 0, 5, 0, 1) = 1
            shift(5, 0, 0, 0, 1) = 1""");
        Runs.run(39, "NONE goes ahead of NOTHING", "shift(0, 0, 6, 0, 1) = -1 | shift(6, 0, 0, 0, 1) = -1 | shift(0, 0, 1, 0, 1) = -11");
        Runs.run(39, "NOTHING: either one, ahead of CAST and PLACE", """
            tape(0, 3, 2) = 1 | shift(0, 0, 1, 0, 1) = -11 | shift(1, 0, 0, 0, 1) = -11 | shift(1, 0, 1, 0, 0) = -11
            shift(0, 9, 1, -1, -1) = -11 | shift(1, -1, 0, 9, 99) = -11 | tape(1, 0, 2) = 1 | shift(0, 0, 1, 0, 1) = -12""");
        Runs.run(39, "CAST: of unlike sorts, ahead of PLACE", """
            tape(0, 0, 2) = 1 | tape(1, 1, 2) = 1 | tape(2, 2, 2) = 1 | tape(3, 3, 2) = 1 | tape(4, 4, 2) = 1
            shift(0, 0, 1, 0, 1) = -12 | shift(1, 0, 0, 0, 1) = -12 | shift(1, 0, 2, 0, 1) = -12 | shift(2, 0, 3, 0, 1) = -12
            shift(3, 0, 4, 0, 1) = -12 | shift(4, 0, 0, 0, 1) = -12 | shift(0, 0, 4, 0, 0) = -12 | shift(0, 9, 4, 9, 9) = -12
            shift(0, 0, 4, 0, -1) = -12 | tape(1, 0, 2) = 1 | shift(0, 0, 1, 0, 2) = 2""");
        Runs.run(39, "CAST: also rows of no items", """
            tape(0, 0, 0) = 1 | tape(1, 3, 0) = 1 | shift(0, 0, 1, 0, 0) = -12 | tape(1, 0, 0) = 1 | shift(0, 0, 1, 0, 0) = 0""");
    }

    private static void shiftPlaces() {
        String two = "tape(0, 2, 4) = 1 | tape(1, 2, 3) = 1 | item(0, 0, 5) = 1 | item(0, 3, 8) = 1 | item(1, 0, 9) = 1\n";
        String left = "peek(0, 0) = 5 | peek(0, 3) = 8 | peek(1, 0) = 9 | peek(1, 2) = 0";
        Runs.run(39, "PLACE: n is below 0", two + "shift(0, 0, 1, 0, -1) = -13 | shift(0, 0, 1, 0, MIN) = -13\n"
            + "shift(0, 4, 1, 3, -1) = -13 | shift(0, 2, 1, 2, -2) = -13\n" + left);
        Runs.run(39, "PLACE: i is below 0", two + "shift(0, -1, 1, 0, 1) = -13 | shift(0, -1, 1, 0, 0) = -13\n"
            + "shift(0, MIN, 1, 0, 1) = -13 | shift(0, -1, 1, 0, 2) = -13\n" + left);
        Runs.run(39, "PLACE: j is below 0", two + "shift(0, 0, 1, -1, 1) = -13 | shift(0, 0, 1, -1, 0) = -13\n"
            + "shift(0, 0, 1, MIN, 1) = -13 | shift(0, 0, 1, -1, 2) = -13\n" + left);
        Runs.run(39, "PLACE: beyond the end of the one", two + "shift(0, 4, 1, 0, 1) = -13 | shift(0, 3, 1, 0, 2) = -13\n"
            + "shift(0, 5, 1, 0, 0) = -13 | shift(0, MAX, 1, 0, 1) = -13 | shift(0, MAX, 1, 0, 0) = -13\n"
            + "shift(0, 2, 1, 0, 3) = -13 | shift(1, 0, 0, 0, 4) = -13 | shift(0, 1, 1, 0, MAX) = -13\n" + left
            + " | shift(0, 3, 1, 0, 1) = 1 | peek(1, 0) = 8");
        Runs.run(39, "PLACE: beyond the end of the other one", two + "shift(0, 0, 1, 3, 1) = -13 | shift(0, 0, 1, 2, 2) = -13\n"
            + "shift(0, 0, 1, 4, 0) = -13 | shift(0, 0, 1, MAX, 1) = -13 | shift(0, 0, 1, MAX, 0) = -13\n"
            + "shift(0, 0, 1, 0, 4) = -13 | shift(0, 0, 1, 0, MAX) = -13 | shift(0, MAX, 1, MAX, MAX) = -13\n" + left
            + " | shift(0, 0, 1, 2, 1) = 1 | peek(1, 2) = 5");
        Runs.run(39, "n 0: at both ends there is a place for none", two + "shift(0, 4, 1, 3, 0) = 0 | shift(0, 0, 1, 0, 0) = 0\n"
            + "shift(0, 0, 0, 4, 0) = 0\n" + left);
    }

    private static void shift() {
        String row = "tape(0, 3, 5) = 1 | item(0, 0, 1) = 1 | item(0, 1, 2) = 1 | item(0, 2, 3) = 1 | item(0, 3, 4) = 1"
            + " | item(0, 4, 5) = 1\n";
        Runs.run(39, "n items come to another one: n", row + "tape(1, 3, 3) = 1 | shift(0, 2, 1, 0, 3) = 3\n"
            + "peek(1, 0) = 3 | peek(1, 1) = 4 | peek(1, 2) = 5 | peek(0, 2) = 3 | peek(0, 4) = 5 | shift(0, 0, 1, 2, 1) = 1\n"
            + "peek(1, 1) = 4 | peek(1, 2) = 1");
        Runs.run(39, "to the same one, as they all were before: up", row + "shift(0, 0, 0, 1, 4) = 4\n"
            + "peek(0, 0) = 1 | peek(0, 1) = 1 | peek(0, 2) = 2 | peek(0, 3) = 3 | peek(0, 4) = 4");
        Runs.run(39, "to the same one, as they all were before: down", row + "shift(0, 1, 0, 0, 4) = 4\n"
            + "peek(0, 0) = 2 | peek(0, 1) = 3 | peek(0, 2) = 4 | peek(0, 3) = 5 | peek(0, 4) = 5");
        Runs.run(39, "to the same place", row + "shift(0, 0, 0, 0, 5) = 5 | peek(0, 0) = 1 | peek(0, 4) = 5\n"
            + "shift(0, 0, 0, 0, 6) = -13 | shift(0, 0, 0, 1, 5) = -13");
        Runs.run(39, "60 items", """
            tape(0, 1, 60) = 1 | tape(5, 1, 60) = 1 | item(0, 0, -7) = 1 | item(0, 59, 32768) = 1 | shift(0, 0, 5, 0, 61) = -13
            shift(0, 0, 5, 0, 60) = 60 | peek(5, 0) = -7 | peek(5, 59) = -32768 | shift(0, 59, 5, 0, 1) = 1
            peek(5, 0) = -32768 | shift(0, 1, 5, 0, 60) = -13 | shift(5, 0, 0, 59, 1) = 1 | peek(0, 59) = -32768""");
        for (int sort = 0; sort < 5; sort++) {
            Runs.run(39, "items of sort " + sort + " come as they were", "tape(2, " + sort + ", 2) = 1 | tape(3, " + sort
                + ", 1) = 1 | item(2, 1, -1) = 1 | shift(2, 1, 3, 0, 1) = 1 | peek(3, 0) = " + (sort == 4 ? 1 : -1)
                + " | item(2, 1, 0) = 1 | peek(3, 0) = " + (sort == 4 ? 1 : -1) + " | shift(2, 0, 3, 0, 1) = 1 | peek(3, 0) = 0");
        }
    }
}
