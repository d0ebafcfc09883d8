/** Promises 11 to 17, sentence by sentence: the cases at each bound that the document names. */
public final class DivisionEdgesTest {
    public static void main(String[] args) {
        holder();
        held();
        share();
        shareAtBounds();
        claimOfNothing();
        claimOfUnheld();
        claimBelow();
        claimOfEnvy();
        claimNumbers();
        better();
        told();
        envious();
        poorestByFairest();
        all();
        Check.end("DivisionEdgesTest");
    }

    private static void holder() {
        Runs.run(11, "-5: there is none", """
            thing() = 0
            holder(0) = -5 -5 | hold(0, 1) = -5 | holder(0) = 1 -5 | split(0, 0, 1, 2) = 1 | holder(0) = 1 0
            hold(0, -1) = 1 | holder(0) = -5 -5""");
        Runs.run(11, "NONE: the THING", """
            thing() = 0 | thing() = 1
            holder(2) = -1 -1 | holder(-1) = -1 -1 | holder(6) = -1 -1 | holder(MAX) = -1 -1 | holder(MIN) = -1 -1
            holder(1) = -5 -5""");
        Runs.run(11, "NONE: what", """
            thing() = 0 | hold(0, 0) = -5
            holder(0, 2) = -1 | holder(0, -1) = -1 | holder(0, MAX) = -1 | holder(0, MIN) = -1 | holder(0, 0) = 0
            holder(0, 1) = -5""");
        Runs.run(11, "the second one of the THING that is SPLIT alone", """
            parties(4) = 2
            thing() = 0 | thing() = 1 | thing() = 2
            hold(0, 3) = -5 | hold(1, 3) = -5 | hold(2, 3) = -5 | split(1, 2, 1, 2) = 1
            holder(0) = 3 -5 | holder(1) = 3 2 | holder(2) = 3 -5""");
    }

    private static void held() {
        Runs.run(12, "NO: the PARTY", """
            parties(3) = 2
            thing() = 0 | hold(0, 2) = -5
            held(3, 0) = NO NO | held(-1, 0) = NO NO | held(MAX, 0) = NO NO | held(MIN, 0) = NO NO | held(2, 0) = 1/1
            held(0, 0) = 0/1""");
        Runs.run(12, "NO: the PARTY -1, also of a THING that nobody HOLDS", "thing() = 0\nheld(-1, 0) = NO NO");
        Runs.run(12, "NO: the THING", """
            thing() = 0 | thing() = 1 | hold(1, 0) = -5
            held(0, 2) = NO NO | held(0, -1) = NO NO | held(0, 6) = NO NO | held(0, MAX) = NO NO | held(0, MIN) = NO NO
            held(0, 1) = 1/1 | held(0, 0) = 0/1""");
        Runs.run(12, "NO: part", """
            thing() = 0 | hold(0, 0) = -5
            held(0, 0, 2) = NO | held(0, 0, -1) = NO | held(0, 0, MAX) = NO | held(0, 0, MIN) = NO | held(0, 0) = 1/1
            held(1, 0, 2) = NO""");
        Runs.run(12, "1, a PART, or 0", """
            parties(3) = 2
            thing() = 0 | thing() = 1 | thing() = 2
            hold(0, 0) = -5 | hold(1, 0) = -5 | split(1, 2, 3, 7) = 1
            held(0, 0) = 1/1 | held(0, 1) = 4/7 | held(0, 2) = 0/1 | held(1, 0) = 0/1 | held(1, 1) = 0/1 | held(1, 2) = 0/1
            held(2, 0) = 0/1 | held(2, 1) = 3/7 | held(2, 2) = 0/1""");
        Runs.run(12, "a PART by ADJUSTED, in lowest terms, far below the line", """
            things 99,98 98,99 97,1
            settle(0, 1) = 0 | holder(0) = 1 0 | held(0, 0) = 6452/8069 | held(1, 0) = 1617/8069""");
    }

    private static void share() {
        Runs.run(13, "NO: by", """
            parties(3) = 2
            things 5,6,7
            share(3, 0) = NO NO | share(-1, 0) = NO NO | share(MAX, 0) = NO NO | share(MIN, 0) = NO NO | share(2, 0) = 0/1""");
        Runs.run(13, "NO: of", """
            parties(3) = 2
            things 5,6,7
            share(0, 3) = NO NO | share(0, -1) = NO NO | share(0, MAX) = NO NO | share(0, MIN) = NO NO | share(0, 2) = 0/1""");
        Runs.run(13, "NO: part, also if ALL is 0", """
            things 5,0
            share(0, 0, 2) = NO | share(0, 0, -1) = NO | share(1, 0, 2) = NO | share(1, 0, -1) = NO | share(1, 1, MAX) = NO
            share(0, 1, MIN) = NO | share(1, 0) = 1/1""");
        Runs.run(13, "if ALL of p is 0, the SHARE is 1, whoever HOLDS what", """
            parties(3) = 2
            things 0,6,7
            share(0, 0) = 1/1 | share(0, 1) = 1/1 | share(0, 2) = 1/1 | share(1, 0) = 0/1 | hold(0, 1) = -5
            share(0, 0) = 1/1 | share(0, 1) = 1/1 | share(1, 0) = 0/1 | share(1, 1) = 1/1""");
        Runs.run(13, "there are no THINGS: ALL is 0", "share(0, 0) = 1/1 | share(0, 1) = 1/1 | share(1, 0) = 1/1");
        Runs.run(13, "ALL is 1: no longer 1", """
            things 1,0 0,0
            share(0, 0) = 0/1 | hold(1, 0) = -5 | share(0, 0) = 0/1 | hold(0, 0) = -5 | share(0, 0) = 1/1""");
        Runs.run(13, "of another one, or itself", """
            things 3,1 1,2
            hold(0, 0) = -5 | hold(1, 1) = -5
            share(0, 0) = 3/4 | share(0, 1) = 1/4 | share(1, 0) = 1/3 | share(1, 1) = 2/3""");
    }

    private static void shareAtBounds() {
        Runs.run(13, "all and nothing", """
            things 99,99 99,99 99,99 99,99 99,99 99,99
            hold(0, 0) = -5 | hold(1, 0) = -5 | hold(2, 0) = -5 | hold(3, 0) = -5 | hold(4, 0) = -5 | hold(5, 0) = -5
            share(0, 0) = 1/1 | share(1, 0) = 1/1 | share(0, 1) = 0/1 | share(1, 1) = 0/1""");
        Runs.run(13, "a PART counts as much as it is, in lowest terms", """
            things 99,1 99,1 99,1 99,1 99,1 99,1
            hold(0, 0) = -5 | split(0, 1, 98, 99) = 1
            share(0, 1) = 49/297 | share(0, 0) = 1/594 | share(1, 1) = 49/297 | share(1, 0) = 1/594
            split(0, 1, 1, 99) = 1 | share(0, 1) = 1/594 | share(0, 0) = 49/297""");
        Runs.run(13, "what nobody HOLDS is in ALL of p", "things 30,1 70,1\nhold(0, 0) = -5 | share(0, 0) = 3/10");
    }

    private static void claimOfNothing() {
        Runs.run(14, "1: its ALL is 0; CAUSE: 10 and how many THINGS it HOLDS something of", """
            things 0,1 0,1 0,1
            claim(0) = 1 10 -5 -5
            hold(0, 0) = -5 | claim(0) = 1 11 -5 -5
            hold(1, 1) = -5 | split(1, 0, 1, 99) = 1 | claim(0) = 1 12 -5 -5
            hold(2, 0) = -5 | claim(0) = 1 13 -5 -5
            hold(0, -1) = 0 | claim(0) = 1 12 -5 -5""");
        Runs.run(14, "1: how many, 6 at most", """
            things 0,1 0,1 0,1 0,1 0,1 0,1
            hold(0, 0) = -5 | hold(1, 0) = -5 | hold(2, 0) = -5 | hold(3, 0) = -5 | hold(4, 0) = -5 | hold(5, 0) = -5
            split(5, 1, 1, 2) = 1 | claim(0) = 1 16 -5 -5""");
        Runs.run(14, "1 goes ahead of 2: a THING without a HOLDER is no CAUSE by 0 POINTS", """
            things 0,1
            claim(0) = 1 10 -5 | point(0, 0, 1) = 0 | claim(0) = 2 10 1 -5""");
    }

    private static void claimOfUnheld() {
        Runs.run(14, "2: the least THING to which it gives POINTS and that has no HOLDER; this has its POINTS as CAUSE", """
            things 0,5 3,0 99,1
            claim(0) = 2 11 3 -5 | claim(1) = 2 10 5 -5
            hold(1, 1) = -5 | claim(0) = 2 12 99 -5 | hold(2, 1) = -5 | claim(0) = 3 0 -5 -5
            hold(0, 0) = -5 | claim(0) = 3 1 -5 -5""");
        Runs.run(14, "2: of the last THING", """
            things 1,0 1,0 1,0 1,0 1,0 1,0
            hold(0, 0) = -5 | hold(1, 0) = -5 | hold(2, 0) = -5 | hold(3, 0) = -5 | hold(4, 0) = -5 | claim(0) = 2 15 1 -5
            hold(5, 0) = -5 | claim(0) = 0 -5 -5 -5""");
        Runs.run(14, "2 goes ahead of 3 and 4", """
            things 1,0 98,0
            hold(1, 1) = -5 | claim(0) = 2 10 1 -5 | hold(0, 1) = -5 | claim(0) = 3 0 -5 -5""");
        Runs.run(14, "2: one that is SPLIT has a HOLDER", """
            parties(3) = 2
            things 7,0,0
            hold(0, 1) = -5 | split(0, 2, 1, 2) = 1 | claim(0) = 3 0 -5 -5""");
    }

    private static void claimBelow() {
        Runs.run(14, "3: its SHARE is below 1 by n; 1 by 2 isn't", """
            things 1,0 1,0
            hold(0, 0) = -5 | hold(1, 1) = -5 | claim(0) = 0 -5 -5
            point(0, 1, 2) = 1 | claim(0) = 3 1 -5""");
        Runs.run(14, "3: 1 by 3 isn't, and less is", """
            parties(3) = 2
            things 9,0,0
            hold(0, 1) = -5 | split(0, 0, 33, 99) = 1 | claim(0) = 4 11 1 -5
            split(0, 0, 32, 97) = 1 | claim(0) = 3 1 -5 | split(0, 0, 32, 96) = 1 | claim(0) = 4 11 1 -5
            split(0, 0, 33, 98) = 1 | claim(0) = 4 11 1 -5""");
        Runs.run(14, "3: 1 by 4 isn't, and less is", """
            parties(4) = 2
            things 1,0,0,0 1,0,0,0 1,0,0,0 1,0,0,0
            hold(0, 3) = -5 | hold(1, 2) = -5 | hold(2, 1) = -5 | hold(3, 0) = -5 | claim(0) = 0 -5 -5
            point(0, 1, 2) = 1 | claim(0) = 3 8 -5 -5""");
        Runs.run(14, "3: CAUSE: BITS, of each THING it HOLDS something of, also a PART, also by 0 POINTS", """
            things 0,0 99,0 1,0 0,0 0,0 0,0
            hold(0, 0) = -5 | hold(1, 1) = -5 | hold(2, 1) = -5 | hold(3, 0) = -5 | hold(4, 0) = -5 | hold(5, 0) = -5
            claim(0) = 3 57 -5 | split(2, 0, 1, 2) = 1 | claim(0) = 3 61 -5 | hold(0, 1) = 0 | claim(0) = 3 60 -5""");
        Runs.run(14, "3: it HOLDS nothing", "things 5,5\nhold(0, 1) = -5 | claim(0) = 3 0 -5 -5 | claim(1) = 0 -5 -5");
        Runs.run(14, "3 goes ahead of 4", """
            things 49,0 51,0
            hold(0, 0) = -5 | hold(1, 1) = -5 | claim(0) = 3 1 -5 | point(0, 0, 51) = 49 | claim(0) = 0 -5 -5""");
    }

    private static void claimOfEnvy() {
        Runs.run(14, "4: another one's is greater by it than its own; the least such, and 10; BITS of that one's", """
            parties(4) = 2
            things 30,0,0,0 20,0,0,0 35,0,0,0 15,0,0,0 0,0,0,0
            hold(0, 0) = -5 | hold(1, 1) = -5 | hold(2, 3) = -5 | hold(3, 1) = -5 | hold(4, 1) = -5
            claim(0) = 4 11 26 -5 | hold(3, 2) = 1 | claim(0) = 4 13 4 -5
            split(2, 2, 1, 7) = 1 | claim(0) = 0 -5 -5""");
        Runs.run(14, "4: as great isn't greater", """
            parties(3) = 2
            things 1,0,0 1,0,0 1,0,0
            hold(0, 0) = -5 | hold(1, 1) = -5 | hold(2, 2) = -5 | claim(0) = 0 -5 -5 | point(0, 2, 2) = 1
            claim(0) = 3 1 -5""");
        Runs.run(14, "4: as great isn't greater, and a little more is", """
            parties(3) = 2
            things 40,0,0 40,0,0 20,0,0
            hold(0, 0) = -5 | hold(1, 1) = -5 | hold(2, 2) = -5 | claim(0) = 0 -5 -5
            point(0, 1, 41) = 40 | claim(0) = 4 11 2 -5 | point(0, 1, 40) = 41 | claim(0) = 0 -5 -5
            split(2, 1, 1, 99) = 1 | claim(0) = 4 11 6 -5""");
        Runs.run(14, "4: of the last PARTY, by the last one", """
            parties(4) = 2
            things 0,0,30,60 0,0,40,40 0,0,30,0
            hold(0, 2) = -5 | hold(1, 3) = -5 | hold(2, 0) = -5
            claim(2) = 4 13 2 -5 | claim(3) = 4 12 1 -5""");
        Runs.run(14, "4: the least such: 0, though others are as great or greater", """
            parties(4) = 2
            things 2,30,0,0 2,25,0,0 2,45,9,9 9,0,0,0
            hold(0, 0) = -5 | hold(1, 1) = -5 | hold(2, 2) = -5 | hold(3, 3) = -5
            claim(1) = 4 10 1 -5 | hold(0, 3) = 0 | claim(1) = 4 12 4 -5 | hold(2, 3) = 2 | claim(1) = 4 13 13 -5
            hold(0, 0) = 3 | hold(2, 0) = 3 | claim(1) = 4 10 5 -5""");
        Runs.run(14, "4: BITS of a PART", """
            parties(3) = 2
            things 40,1,1 60,1,1
            hold(0, 0) = -5 | hold(1, 1) = -5 | split(1, 2, 1, 9) = 1 | claim(0) = 4 11 2 -5
            hold(1, 2) = 1 | claim(0) = 4 12 2 -5""");
    }

    private static void claimNumbers() {
        Runs.run(14, "NONE: the PARTY", """
            parties(3) = 2
            claim(3, 0) = -1 | claim(-1, 0) = -1 | claim(MAX, 0) = -1 | claim(MIN, 1) = -1 | claim(3, -1) = -1
            claim(2, 0) = 1""");
        Runs.run(14, "NONE: k is below 0", "claim(0, -1) = -1 | claim(0, MIN) = -1 | claim(0, 0) = 1");
        Runs.run(14, "-5: there is none such, however great k is", """
            things 5,0
            claim(0, 2) = 5 | claim(0, 3) = -5 | claim(0, 4) = -5 | claim(0, MAX) = -5 | claim(1, 2) = -5 | claim(1, MAX) = -5
            hold(0, 0) = -5 | claim(0, 1) = -5 | claim(0, MAX) = -5""");
        Runs.run(14, "else 0: a CLAIM, but no CAUSE", "things 5,0\nhold(0, 0) = -5 | claim(0) = 0 -5 -5 -5");
    }

    private static void better() {
        Runs.run(15, "NONE: i, j; one twice", """
            parties(3) = 2
            thing() = 0
            better(0, 3) = -1 | better(3, 0) = -1 | better(-1, 0) = -1 | better(0, -1) = -1 | better(1, 1) = -1
            better(3, 3) = -1 | better(MAX, 0) = -1 | better(0, MIN) = -1 | better(2, 0) = -5 | better(0, 2) = -5""");
        Runs.run(15, "-5: none, for there are no THINGS, or they HOLD nothing, or one of them does not", """
            better(0, 1) = -5
            things 1,9 9,1
            better(0, 1) = -5 | hold(0, 0) = -5 | better(0, 1) = -5 | better(1, 0) = -5 | hold(1, 1) = -5
            better(0, 1) = 1 | better(1, 0) = 10""");
        Runs.run(15, "less than: as much isn't", """
            things 2,4 3,6
            hold(0, 0) = -5 | hold(1, 1) = -5 | better(0, 1) = -5 | better(1, 0) = -5
            point(0, 1, 4) = 3 | better(0, 1) = 1 | better(1, 0) = 10 | point(0, 1, 2) = 4 | better(0, 1) = -5
            better(1, 0) = -5""");
        Runs.run(15, "0 POINTS for both THINGS: none", """
            things 0,9 0,1
            hold(0, 0) = -5 | hold(1, 1) = -5 | better(0, 1) = -5 | better(1, 0) = -5""");
        Runs.run(15, "i HOLDS something of t, j of u: a PART is something, of one THING both may HOLD", """
            things 1,9 9,1
            hold(0, 1) = -5 | hold(1, 1) = -5 | better(0, 1) = -5
            split(0, 0, 1, 99) = 1 | better(0, 1) = 1 | better(1, 0) = 10
            hold(0, 1) = 1 | split(1, 0, 98, 99) = 1 | better(0, 1) = -5 | better(1, 0) = -5""");
        Runs.run(15, "the first two, by t, then by u", """
            things 5,5 1,2 1,3 9,1 8,1 7,1
            hold(0, 0) = -5 | hold(1, 0) = -5 | hold(2, 0) = -5 | hold(3, 1) = -5 | hold(4, 1) = -5 | hold(5, 1) = -5
            better(0, 1) = 3 | hold(3, 0) = 1 | better(0, 1) = 4 | hold(0, 1) = 0 | better(0, 1) = 10 | hold(1, 1) = 0
            better(0, 1) = 20 | hold(0, 0) = 1 | better(0, 1) = 4 | hold(4, 0) = 1 | better(0, 1) = 5
            hold(5, 0) = 1 | better(0, 1) = 21 | better(1, 0) = 12""");
        Runs.run(15, "of the last two THINGS", """
            things 0,0 0,0 0,0 0,0 9,1 1,9
            hold(5, 0) = -5 | hold(4, 1) = -5 | better(0, 1) = 54 | better(1, 0) = 45""");
        Runs.run(15, "-5: none of 6 THINGS", """
            things 1,1 2,2 3,3 4,4 5,5 6,6
            hold(0, 0) = -5 | hold(1, 1) = -5 | hold(2, 0) = -5 | hold(3, 1) = -5 | hold(4, 0) = -5 | hold(5, 1) = -5
            better(0, 1) = -5 | better(1, 0) = -5""");
        Runs.run(15, "THINGS that were there ahead of parties are none", """
            things 9,1 1,9
            hold(0, 0) = -5 | hold(1, 1) = -5 | better(0, 1) = -5 | parties(2) = 2
            things 1,99
            hold(0, 0) = -5 | better(1, 0) = -5 | better(0, 1) = -5 | looked() = -5 | told(4) = 2 | claim(1) = 3 0 -5
            thing() = 1 | better(1, 0) = -5""");
        Runs.run(15, "of the last two PARTIES", """
            parties(4) = 2
            things 9,9,1,9 1,1,9,1
            hold(0, 2) = -5 | hold(1, 3) = -5 | better(2, 3) = 1 | better(3, 2) = 10 | better(0, 3) = -5""");
    }

    private static void told() {
        Runs.run(16, "NONE: what", "told(-1) = -1 | told(6) = -1 | told(MAX) = -1 | told(MIN) = -1 | told(0) = 2 | told(5) = 0");
        Runs.run(16, "n, THINGS", """
            told(0) = 2 | told(1) = 0 | parties(4) = 2 | told(0) = 4 | thing() = 0 | told(1) = 1 | thing() = 1 | thing() = 2
            thing() = 3 | thing() = 4 | thing() = 5 | thing() = -4 | told(1) = 6 | parties(9) = -2 | told(0) = 4""");
        Runs.run(16, "how many are SPLIT: 0 or 1", """
            thing() = 0 | thing() = 1 | told(2) = 0 | hold(0, 0) = -5 | hold(1, 0) = -5 | split(0, 1, 1, 2) = 1 | told(2) = 1
            split(1, 1, 1, 2) = -4 | told(2) = 1 | hold(0, 1) = 0 | told(2) = 0""");
        Runs.run(16, "how many have no HOLDER: from all to none", """
            thing() = 0 | told(3) = 1 | thing() = 1 | told(3) = 2 | hold(0, 0) = -5 | told(3) = 1 | split(0, 1, 1, 2) = 1
            told(3) = 1 | hold(1, 0) = -5 | told(3) = 0 | hold(0, -1) = 0 | hold(1, -1) = 0 | told(3) = 2""");
    }

    private static void envious() {
        Runs.run(16, "ENVIOUS: none without THINGS, none whose ALL is 0", """
            told(4) = 0
            things 5,0
            told(4) = 0 | hold(0, 0) = -5 | told(4) = 0 | hold(0, 1) = 0 | told(4) = 1""");
        Runs.run(16, "ENVIOUS: greater, not as great", """
            things 1,1 1,2
            hold(0, 0) = -5 | hold(1, 1) = -5 | told(4) = 0 | point(0, 1, 2) = 1 | told(4) = 1 | point(1, 0, 3) = 1
            told(4) = 3 | point(0, 1, 1) = 2 | told(4) = 2 | point(1, 1, 3) = 2 | told(4) = 0""");
        Runs.run(16, "ENVIOUS: 2 to the p, of all PARTIES", """
            parties(4) = 2
            things 0,1,1,1 1,0,0,0
            hold(0, 0) = -5 | told(4) = 14 | hold(1, 1) = -5 | told(4) = 15 | hold(0, 3) = 0 | told(4) = 7 | hold(0, 2) = 3
            told(4) = 11""");
        Runs.run(16, "ENVIOUS: a PART as great", """
            things 7,7
            hold(0, 0) = -5 | told(4) = 2 | split(0, 1, 49, 98) = 1 | told(4) = 0 | split(0, 1, 48, 97) = 1 | told(4) = 2
            split(0, 1, 49, 97) = 1 | told(4) = 1""");
    }

    private static void poorestByFairest() {
        Runs.run(16, "by FAIREST the PARTY with the least SHARE, of several the least", """
            told(5) = 0
            parties(3) = 2 | told(5) = 0
            things 1,1,1
            told(5) = 1 | parties(2) = 3
            things 1,1 1,1
            told(5) = 0 | point(0, 0, 2) = 1 | told(5) = 1 | point(1, 0, 2) = 1 | told(5) = 1 | point(0, 1, 9) = 1
            told(5) = 1 | point(1, 0, 9) = 2 | told(5) = 0""");
        Runs.run(16, "the SHARE of one whose ALL is 0 is 1", """
            things 0,1 0,1
            told(5) = 0 | point(0, 0, 5) = 0 | point(0, 1, 5) = 0 | told(5) = 0 | point(1, 0, 0) = 1 | point(1, 1, 0) = 1
            told(5) = 0 | parties(3) = 2
            things 0,2,3 0,3,2
            told(5) = 1 | point(1, 0, 1) = 2 | point(2, 1, 1) = 2 | told(5) = 1 | point(1, 1, 9) = 3 | told(5) = 2""");
        Runs.run(16, "of the last PARTY", """
            parties(4) = 2
            things 9,0,0,0 0,9,0,0 0,0,9,1 1,1,1,1
            told(5) = 3 | point(3, 2, 0) = 1 | told(5) = 0 | point(0, 3, 0) = 1 | told(5) = 1""");
    }

    private static void all() {
        Runs.run(17, "NONE", """
            things 5,6
            all(2) = -1 | all(-1) = -1 | all(MAX) = -1 | all(MIN) = -1 | all(1) = 6 | all(0) = 5""");
        Runs.run(17, "without THINGS, and with 6 of 99 POINTS", """
            all(0) = 0 | all(1) = 0
            things 99,0 99,0 99,0 99,0 99,0 99,1
            all(0) = 594 | all(1) = 1 | point(0, 0, 0) = 99 | all(0) = 495""");
        Runs.run(17, "whoever HOLDS them", """
            things 5,6 7,8
            hold(0, 1) = -5 | all(0) = 12 | split(0, 0, 1, 2) = 1 | all(0) = 12 | all(1) = 14""");
    }
}
