/** Promises 18 to 23, sentence by sentence: the cases at each bound that the document names. */
public final class AdjustedEdgesTest {
    public static void main(String[] args) {
        adjustedNumbers();
        none();
        noLess();
        rich();
        moved();
        split();
        greatPoints();
        alikeAndPartedNumbers();
        asked();
        ratioNumbers();
        ratioOrder();
        fairNumbers();
        fairest();
        fairestRows();
        Check.end("AdjustedEdgesTest");
    }

    private static void adjustedNumbers() {
        Runs.run(18, "NONE: i, j; one twice", """
            parties(3) = 2
            things 5,6,7
            adjusted(0, 3, 0) = -1 | adjusted(3, 0, 0) = -1 | adjusted(-1, 0, 0) = -1 | adjusted(0, -1, 0) = -1
            adjusted(1, 1, 0) = -1 | adjusted(3, 3, 4) = -1 | adjusted(MAX, 0, 0) = -1 | adjusted(0, MIN, 0) = -1
            adjusted(2, 0, 0) = 0 | adjusted(0, 2, 0) = 0""");
        Runs.run(18, "NONE: what", """
            things 5,6
            adjusted(0, 1, -1) = -1 | adjusted(0, 1, 5) = -1 | adjusted(0, 1, MAX) = -1 | adjusted(0, 1, MIN) = -1
            adjusted(0, 1) = 0 1 1 0 0 -1""");
        Runs.run(18, "NONE goes ahead of STATE", """
            things 5,0
            adjusted(0, 0, 0) = -1 | adjusted(0, 2, 0) = -1 | adjusted(0, 1, 5) = -1 | adjusted(0, 1, -1) = -1
            adjusted(0, 1) = -3 -3 -3 -3 -3 -1 | adjusted(1, 0) = -3 -3 -3 -3 -3 -1""");
    }

    private static void none() {
        Runs.run(18, "STATE: there is none, if ALL of one of them is 0", """
            parties(4) = 2
            things 5,0,1,0
            adjusted(0, 1, 0) = -3 | adjusted(1, 0, 0) = -3 | adjusted(1, 3, 4) = -3 | adjusted(2, 3, 1) = -3
            adjusted(0, 2, 0) = 0""");
        Runs.run(18, "STATE: there are no THINGS", "adjusted(0, 1) = -3 -3 -3 -3 -3");
        Runs.run(18, "ALL of 1 is enough", """
            things 1,0 0,1
            adjusted(0, 1) = -5 1 2 0 -5 | alike(0, 1) = 1/1 | parted(0, 1) = 0/1
            point(0, 0, 0) = 1 | adjusted(0, 1) = -3 -3 -3 -3 -3 | alike(0, 1) = NO NO | parted(0, 1) = NO NO""");
        Runs.run(19, "NO: there is none", """
            things 5,0
            alike(0, 1) = NO NO | alike(1, 0) = NO NO | point(1, 0, 1) = 0 | alike(0, 1) = 1/2 | alike(1, 0) = 1/2""");
        Runs.run(20, "NO: there is none", """
            things 0,5
            parted(0, 1) = NO NO | parted(1, 0) = NO NO | point(0, 0, 1) = 0 | parted(0, 1) = 1/2 | parted(1, 0) = 1/2""");
    }

    private static void noLess() {
        Runs.run(18, "each THING is first i's, if POINTS of i times ALL of j are no less: as much is i's", """
            things 2,3 4,6
            adjusted(0, 1) = 1 2 3 1 0 | alike(0, 1) = 1/2 | parted(0, 1) = 1/4
            adjusted(1, 0) = 1 2 3 1 1 | alike(1, 0) = 1/2 | parted(1, 0) = 1/4""");
        Runs.run(18, "each THING is first i's, if ..: else j's", """
            things 1,3 4,6
            adjusted(0, 1) = 1 2 3 0 0 | alike(0, 1) = 6/11 | parted(0, 1) = 7/22
            adjusted(1, 0) = 1 3 2 0 0 | alike(1, 0) = 6/11 | parted(1, 0) = 7/22""");
        Runs.run(18, "each THING is first i's, if ..: 0 for both is i's", """
            things 3,2 2,3 0,0
            adjusted(0, 1) = -5 5 2 0 -5 | adjusted(1, 0) = -5 6 1 0 -5""");
    }

    private static void rich() {
        Runs.run(18, "RICH: none, if both are alike, also by unlike ALL", """
            things 3,4 2,6
            adjusted(0, 1) = -5 1 2 0 -5 | adjusted(1, 0) = -5 2 1 0 -5 | alike(0, 1) = 3/5 | parted(0, 1) = 0/1
            parted(1, 0) = 0/1 | settle(0, 1) = -5 | told(2) = 0""");
        Runs.run(18, "RICH: who has the greater SHARE, by as little as can be", """
            things 4,1 1,3
            adjusted(0, 1) = 0 1 3 0 0 | adjusted(1, 0) = 0 3 1 0 0 | alike(0, 1) = 16/21 | parted(0, 1) = 1/21
            alike(1, 0) = 16/21 | parted(1, 0) = 1/21""");
        Runs.run(18, "RICH may be i or j, of all PARTIES", """
            parties(4) = 2
            things 1,1,5,1 1,1,1,3
            adjusted(2, 3) = 0 1 3 0 2 | adjusted(3, 2) = 0 3 1 0 2 | parted(2, 3) = 1/13""");
        Runs.run(18, "RICH by the own POINTS of the own THINGS, not by how many", """
            things 1,0 1,0 1,0 96,99
            adjusted(0, 1) = 3 15 8 0 1 | adjusted(1, 0) = 3 8 15 0 1""");
    }

    private static void moved() {
        Runs.run(18, "MOVED, as long as POOR's SHARE isn't above RICH's behind that: as great", """
            things 5,5 2,2 3,3
            adjusted(0, 1) = -5 6 1 1 0 | alike(0, 1) = 1/2 | parted(0, 1) = 0/1
            adjusted(1, 0) = -5 6 1 1 1""");
        Runs.run(18, "MOVED, as long as ..: a little less; then the next one is SPLIT", """
            things 4,4 2,2 3,3
            adjusted(0, 1) = 1 6 3 1 0 | alike(0, 1) = 1/2 | parted(0, 1) = 1/4""");
        Runs.run(18, "the first by which it would be above is SPLIT: a little more", """
            things 6,6 2,2 3,3
            adjusted(0, 1) = 0 7 1 0 0 | alike(0, 1) = 1/2 | parted(0, 1) = 11/12""");
        Runs.run(18, "alike behind one that is MOVED: no more are MOVED, though 0 POINTS would not matter", """
            things 5,5 2,2 3,3 0,0
            adjusted(0, 1) = -5 14 1 1 0 | settle(0, 1) = -5 | holder(0) = 1 -5 | holder(3) = 0 -5""");
        Runs.run(18, "alike at once: none is MOVED", """
            things 0,0 6,4 0,0 4,6
            adjusted(0, 1) = -5 7 8 0 -5 | adjusted(1, 0) = -5 13 2 0 -5""");
        Runs.run(18, "the least RATIO first, of several the least number", """
            things 9,3 8,4 6,3 4,2 0,15
            adjusted(0, 1) = -5 13 18 1 0 | alike(0, 1) = 19/27""");
        Runs.run(18, "the least RATIO first: two of like RATIO go ahead of a greater one", """
            things 6,2 2,1 2,1 2,1 2,1 0,8
            adjusted(0, 1) = -5 25 38 2 0 | alike(0, 1) = 5/7""");
        Runs.run(18, "of several the least number: they are MOVED in their order", """
            things 1,1 1,1 1,1 1,1 1,1
            adjusted(0, 1) = 2 28 7 2 0 | parted(0, 1) = 1/2
            thing() = 5 | point(0, 5, 1) = 0 | point(1, 5, 1) = 0 | adjusted(0, 1) = -5 56 7 3 0""");
    }

    private static void split() {
        Runs.run(18, "the first HOLDER is RICH, POOR has the PART: both HOLD something of it", """
            things 9,0 1,5 0,0
            adjusted(0, 1) = 1 7 2 0 1 | parted(0, 1) = 1/11 | alike(0, 1) = 10/11
            adjusted(1, 0) = 1 6 3 0 1 | parted(1, 0) = 1/11
            settle(0, 1) = 1 | holder(1) = 1 0 | held(0, 1) = 1/11 | held(1, 1) = 10/11 | share(0, 0) = 10/11
            share(1, 1) = 10/11""");
        Runs.run(18, "one THING for both: a half each", """
            things 1,99
            adjusted(0, 1) = 0 1 1 0 0 | adjusted(1, 0) = 0 1 1 0 1 | alike(0, 1) = 1/2 | parted(0, 1) = 1/2""");
        Runs.run(18, "by POINTS as they are now", """
            things 6,4 4,6
            adjusted(0, 1, 0) = -5 | point(0, 0, 7) = 6 | adjusted(0, 1, 0) = 0 | point(0, 0, 6) = 7 | adjusted(0, 1, 0) = -5
            point(1, 1, 7) = 6 | adjusted(0, 1, 0) = 1""");
        Runs.run(18, "THE DIVISION doesn't matter", """
            things 7,4 4,6
            adjusted(0, 1) = 0 1 3 0 0 | hold(0, 1) = -5 | adjusted(0, 1) = 0 1 3 0 0 | hold(1, 1) = -5
            split(1, 0, 1, 2) = 1 | adjusted(0, 1) = 0 1 3 0 0""");
    }

    private static void greatPoints() {
        Runs.run(18, "6 THINGS of 99 POINTS", """
            things 99,99 99,99 99,99 99,99 99,99 99,99
            adjusted(0, 1) = -5 56 7 3 0 | adjusted(1, 0) = -5 56 7 3 1 | alike(0, 1) = 1/2 | parted(0, 1) = 0/1""");
        Runs.run(19, "a fraction in lowest terms, far below the line", """
            things 97,98 89,90 83,84 79,80 73,74 71,71
            adjusted(0, 1) = 1 35 30 1 1 | alike(0, 1) = 44312/88513 | alike(1, 0) = 44312/88513""");
        Runs.run(20, "a fraction in lowest terms, far below the line", """
            things 97,98 89,90 83,84 79,80 73,74 71,71
            parted(0, 1) = 77880/88513 | parted(1, 0) = 77880/88513""");
        Runs.run(20, "6 THINGS: the PART that POOR has", """
            things 99,1 0,99 0,98 1,97 50,50 3,0
            adjusted(0, 1) = 4 49 30 0 0 | alike(0, 1) = 223/249 | parted(0, 1) = 1243/4150
            settle(0, 1) = 4 | held(1, 4) = 1243/4150 | held(0, 4) = 2907/4150""");
    }

    private static void alikeAndPartedNumbers() {
        for (String call : new String[] {"alike", "parted"}) {
            int promise = call.equals("alike") ? 19 : 20;
            Runs.run(promise, "NO: i, j; one twice", """
                parties(3) = 2
                things 5,6,7
                alike(0, 3) = NO NO | alike(3, 0) = NO NO | alike(-1, 0) = NO NO | alike(0, -1) = NO NO | alike(1, 1) = NO NO
                alike(MAX, 0) = NO NO | alike(0, MIN) = NO NO | alike(2, 0) = 1/2 | alike(0, 2) = 1/2"""
                .replace("alike", call));
            Runs.run(promise, "NO: part", """
                things 5,6
                alike(0, 1, 2) = NO | alike(0, 1, -1) = NO | alike(0, 1, MAX) = NO | alike(0, 1, MIN) = NO
                alike(0, 1) = 1/2""".replace("alike", call));
        }
        Runs.run(20, "0 by 1: none is SPLIT", """
            things 6,4 4,6
            parted(0, 1) = 0/1 | parted(1, 0) = 0/1 | alike(0, 1) = 3/5""");
        Runs.run(20, "0 by 1: none is SPLIT, behind a THING that was", """
            parties(3) = 2
            things 7,4,5 4,6,5
            parted(0, 1) = 2/57 | parted(2, 0) = 3/25 | point(0, 0, 6) = 7 | parted(0, 1) = 0/1 | parted(1, 0) = 0/1
            parted(1, 2) = 1/11 | parted(0, 1) = 0/1 | alike(0, 1) = 3/5 | settle(0, 2) = 0 | parted(0, 1) = 0/1
            fits(0, 0, 0) = 21 | parted(0, 1) = 0/1 | odds(0) = 2/5 | parted(0, 1) = 0/1""");
    }

    private static void asked() {
        Runs.run(18, "what is asked changes nothing", """
            parties(3) = 2
            things 7,4,1 4,6,1
            hold(1, 2) = -5 | split(1, 0, 1, 3) = 1
            adjusted(0, 1, 0) = 0 | alike(0, 1) = 35/57 | parted(0, 1) = 2/57 | ratio(0, 1, 0) = 1 | fair(0) = 0
            fairest() = 0/1 | told(5) = 1
            holder(0) = -5 -5 | holder(1) = 2 0 | held(0, 1) = 1/3 | of(0, 0) = 7 | all(0) = 11""");
    }

    private static void ratioNumbers() {
        Runs.run(21, "NONE: i, j; one twice", """
            parties(3) = 2
            things 5,6,7
            ratio(0, 3, 0) = -1 | ratio(3, 0, 0) = -1 | ratio(-1, 0, 0) = -1 | ratio(0, -1, 0) = -1 | ratio(1, 1, 0) = -1
            ratio(MAX, 0, 0) = -1 | ratio(0, MIN, 0) = -1 | ratio(2, 0, 0) = 0 | ratio(0, 2, 0) = 0""");
        Runs.run(21, "NONE: k, from 0 to how many THINGS there are", """
            ratio(0, 1, 0) = -1
            things 5,6 5,7
            ratio(0, 1, -1) = -1 | ratio(0, 1, 2) = -1 | ratio(0, 1, MAX) = -1 | ratio(0, 1, MIN) = -1 | ratio(0, 1) = 1 0
            thing() = 2 | ratio(0, 1, 3) = -1 | ratio(0, 1) = 1 0 2 -1""");
        Runs.run(21, "6 THINGS", """
            things 6,1 5,1 4,1 3,1 2,1 1,1
            ratio(0, 1) = 5 4 3 2 1 0 -1 -1 | ratio(1, 0) = 0 1 2 3 4 5 -1""");
    }

    private static void ratioOrder() {
        Runs.run(21, "those with 0 of POOR last, among themselves by number alone", """
            things 9,0 1,1 0,0 5,0 99,1 1,0
            ratio(0, 1) = 1 4 0 2 3 5""");
        Runs.run(21, "0 of RICH is the least, unless POOR's are 0", """
            things 1,9 0,0 0,1 0,9 0,0 5,1
            ratio(0, 1) = 2 3 0 5 1 4 | ratio(1, 0) = 5 0 1 2 3 4""");
        Runs.run(21, "of several the least number, also by unlike POINTS of one RATIO", """
            things 4,6 2,3 66,99 1,2 3,6 1,1
            ratio(0, 1) = 3 4 0 1 2 5 | ratio(1, 0) = 5 0 1 2 3 4""");
        Runs.run(21, "a RATIO that is greater by as little as can be", """
            things 98,99 97,98 99,98 98,97
            ratio(0, 1) = 1 0 2 3 | ratio(1, 0) = 3 2 0 1""");
        Runs.run(21, "ALL doesn't matter: of a PARTY whose ALL is 0", """
            parties(3) = 2
            things 2,1,0 1,1,0 0,1,0
            ratio(0, 2) = 0 1 2 -1 | ratio(2, 0) = 0 1 2 -1 | ratio(0, 1) = 2 1 0 | ratio(1, 0) = 0 1 2""");
        Runs.run(21, "all THINGS, as if i had all", """
            things 1,9 9,1
            settle(0, 1) = -5 | ratio(0, 1) = 0 1 | ratio(1, 0) = 1 0 | hold(0, -1) = 1 | ratio(0, 1) = 0 1""");
    }

    private static void fairNumbers() {
        Runs.run(22, "NONE", """
            things 1,0 0,1
            fair(2) = -1 | fair(-1) = -1 | fair(6) = -1 | fair(MAX) = -1 | fair(MIN) = -1 | fair(0) = 0 | fair(1) = 1""");
        Runs.run(22, "NONE: there are no THINGS", "fair(0) = -1 | thing() = 0 | fair(0) = 0 | fair(1) = -1");
        Runs.run(23, "NO: part", """
            fairest(2) = NO | fairest(-1) = NO | fairest(MAX) = NO | fairest(MIN) = NO | fairest() = 1/1""");
    }

    private static void fairest() {
        Runs.run(23, "there are no THINGS: all SHARES are 1", "fairest() = 1/1 | parties(4) = 2 | fairest() = 1/1");
        Runs.run(23, "all SHARES are 1, for ALL of each is 0", """
            parties(3) = 2
            thing() = 0 | thing() = 1
            fairest() = 1/1 | fair(0) = 0 | fair(1) = 0 | told(5) = 0""");
        Runs.run(23, "the SHARE of one whose ALL is 0 is 1, so that another one has all", """
            things 0,1 0,1 0,1
            fairest() = 1/1 | fair(0) = 1 | fair(1) = 1 | fair(2) = 1""");
        Runs.run(23, "the least of all SHARES is 0: more PARTIES than THINGS", """
            parties(4) = 2
            things 1,1,1,1 1,1,1,1 1,1,1,1
            fairest() = 0/1 | fair(0) = 0 | fair(1) = 0 | fair(2) = 0 | told(5) = 1""");
        Runs.run(23, "4 PARTIES, 6 THINGS", """
            parties(4) = 2
            things 97,98,71,1 89,90,73,2 83,84,79,3 79,80,83,4 73,74,89,5 71,71,97,6
            fairest() = 14/71 | fair(0) = 1 | fair(1) = 0 | fair(2) = 0 | fair(3) = 2 | fair(4) = 2 | fair(5) = 3
            told(5) = 1""");
        Runs.run(23, "by POINTS as they are now, by n as it is now", """
            things 1,0 0,1
            fairest() = 1/1 | point(0, 1, 3) = 0 | fairest() = 1/4 | fair(0) = 0 | point(1, 0, 1) = 0 | fairest() = 1/2
            fair(0) = 1 | fair(1) = 0 | parties(3) = 2
            things 1,1,1 1,1,1
            fairest() = 0/1 | parties(2) = 3
            things 1,1 1,1
            fairest() = 1/2""");
    }

    private static void fairestRows() {
        Runs.run(22, "of several ways the first as rows (of THINGS by numbers, PARTIES by numbers)", """
            parties(4) = 2
            things 1,1,1,1 1,1,1,1 1,1,1,1 1,1,1,1 1,1,1,1 1,1,1,1
            fair(0) = 0 | fair(1) = 0 | fair(2) = 0 | fair(3) = 1 | fair(4) = 2 | fair(5) = 3 | fairest() = 1/6 | told(5) = 1""");
        Runs.run(22, "of several ways the first as rows: two each", """
            parties(4) = 2
            things 9,9,4,4 8,8,5,5 7,7,6,6 6,6,7,7 5,5,8,8 4,4,9,9
            fair(0) = 0 | fair(1) = 1 | fair(2) = 1 | fair(3) = 2 | fair(4) = 2 | fair(5) = 3 | fairest() = 3/13
            told(5) = 0""");
        Runs.run(22, "each what it alone gives POINTS to", """
            things 0,1 1,0
            fair(0) = 1 | fair(1) = 0 | fairest() = 1/1 | point(0, 0, 1) = 0 | fair(0) = 1 | fair(1) = 0 | fairest() = 1/2""");
    }
}
