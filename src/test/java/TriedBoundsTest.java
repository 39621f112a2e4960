/**
 * Terms 3 and promises 13 to 27: each sentence on what is tried, asked and written that names a bound, or what
 * is empty or none.
 */
public final class TriedBoundsTest {
    private static final Due due = new Due("TriedBoundsTest");
    private static final int NONE = BarrelMoon.NONE;
    private static final String TEN_WAYS = "t1;" + "r99 0;".repeat(10);

    public static void main(String[] args) {
        withoutATown();
        triedFromSeen();
        proofs();
        proofsOfLikeSize();
        giveUps();
        giveUpsOfLikeCost();
        wordsUpToThree();
        wordsThatQuarrel();
        wordsOfLikeNumber();
        steps();
        bars();
        nevers();
        rounds();
        votesOfFewMen();
        votesCutDown();
        votesOfMoreThanHalf();
        sixAsked();
        believedSets();
        believedNone();
        askNextNone();
        askNextBest();
        fifteenEntries();
        tornPages();
        wrongEntries();
        due.end();
    }

    private static void withoutATown() {
        due.sentence("An empty text: no TOWN.");
        BarrelMoon moon = new BarrelMoon();
        due.is("follows(0)", moon.follows(0), 0);
        due.is("giveUp(0)", moon.giveUp(0), 0);
        due.is("giveUp(1)", moon.giveUp(1), 0);
        due.is("never", moon.never(), 0);
        due.is("round", moon.round(), 0);
        due.is("believed(0)", moon.believed(0), 1);
        due.is("believed(1)", moon.believed(1), 0);
        due.is("believed(2)", moon.believed(2), 0);
        due.is("askNext", moon.askNext(), NONE);
        due.is("judge", moon.judge(), NONE);
        due.is("tear", moon.tear(), 0);
        due.is("vote(1, 100)", moon.vote(1, 100), 1000000000);
    }

    private static void triedFromSeen() {
        due.sentence("from SEEN, if nothing else is told; by RULES that are not FORBIDDEN.");
        // What is HELD is 0, 2 and 4; what is SEEN is nothing.
        BarrelMoon moon = Due.townOf("t4;r1 2,0;r1 4,2;r1 5,4;s0;");
        moon.forbid(2, true);
        moon.debate();
        moon.see(0, false);
        moon.forbid(2, false);
        due.is("held", moon.told(4), Due.set(0, 2, 4));
        due.is("follows", moon.told(7), 0);
        due.is("proof", moon.proof(2, 0), NONE);
        due.is("giveUp", moon.giveUp(0), 0);
        due.is("words", moon.words(4), NONE);
        due.is("words of 2", moon.words(2), NONE);
        due.is("step", moon.step(2), 0);
        due.is("barred", moon.barred(0), 0);
        due.is("askNext", moon.askNext(), NONE);
        moon.write(2, 0);
        due.is("judge", moon.judge(), NONE);
        moon.see(0, true);
        due.is("proof", moon.proof(2, 0), 1);
        due.is("giveUp", moon.giveUp(0), 1);
        due.is("judge", moon.judge(), 0);
        for (int r = 0; r < 3; r++) {
            moon.forbid(r, true);
        }
        due.is("all forbidden: proof", moon.proof(2, 0), NONE);
        due.is("all forbidden: proof of what is seen", moon.proof(0, 0), 0);
        due.is("all forbidden: giveUp", moon.giveUp(0), 0);
        due.is("all forbidden: words", moon.words(2), NONE);
        due.is("all forbidden: words of what is seen", moon.words(0), 0);
        due.is("all forbidden: step", moon.step(2), 0);
        due.is("all forbidden: barred", moon.barred(2), 0);
        due.is("all forbidden: barred, seen", moon.barred(0), NONE);
        due.is("all forbidden: never", moon.never(), 255);
        due.is("all forbidden: round", moon.round(), 0);
        due.is("all forbidden: believed", moon.believed(0), 8);
        due.is("all forbidden: askNext", moon.askNext(), 2);
    }

    // ---- proof

    private static void proofs() {
        due.sentence("PROOF of a SAYING: the fewest RULES (of like ones the least SET) by which alone it FOLLOWS:"
                + " how many; the SET; NONE.");
        // Saying k + 1 by k rules, each from the one ahead of it.
        BarrelMoon moon = Due.townOf("t8;s0;r1 1,0;r1 2,1;r1 3,2;r1 4,3;r1 5,4;r1 6,5;r1 7,6;r1 8,7;r1 9,8;r1 10,9;");
        for (int s = 0; s <= 10; s++) {
            due.is("proof(" + s + ", 0)", moon.proof(s, 0), s);
            due.is("proof(" + s + ", 1)", moon.proof(s, 1), (1 << s) - 1);
        }
        due.sentence("PROOF: what = 0 how many, 1 the SET; NONE. UNKNOWN, OUTSIDE.");
        for (int s = 11; s <= 15; s++) {
            due.is("proof(" + s + ", 0)", moon.proof(s, 0), NONE);
            due.is("proof(" + s + ", 1)", moon.proof(s, 1), NONE);
        }
        due.is("proof(16, 0)", moon.proof(16, 0), BarrelMoon.UNKNOWN);
        due.is("proof(15, 2)", moon.proof(15, 2), BarrelMoon.OUTSIDE);
        moon.see(10, true);
        due.is("seen, though it follows, too", moon.proof(10, 0), 0);
        due.is("seen, the set", moon.proof(10, 1), 0);
        moon.forbid(4, true);
        due.is("one forbidden", moon.proof(5, 0), NONE);
        due.is("ahead of it", moon.proof(4, 1), 15);
    }

    private static void proofsOfLikeSize() {
        due.sentence("the fewest RULES (of like ones the least SET)");
        for (int first = 0; first < 10; first++) {
            BarrelMoon moon = Due.townOf(TEN_WAYS);
            for (int r = 0; r < first; r++) {
                moon.forbid(r, true);
            }
            due.is("by the first that is not forbidden", moon.proof(0, 1), 1 << first);
        }
        // By rules 0, 1 and 2, by 3 and 4, or by 4 and 5: the fewest are two, the least of them 3 and 4.
        BarrelMoon two = Due.townOf("t5;r1 2;r1 4,2;r1 0,4,2;r1 6;r1 0,6;r1 6;");
        due.is("two rules", two.proof(0, 0), 2);
        due.is("the least set of two", two.proof(0, 1), Due.set(3, 4));
        two.forbid(3, true);
        due.is("the other set of two", two.proof(0, 1), Due.set(4, 5));
        two.forbid(5, true);
        due.is("three", two.proof(0, 1), Due.set(0, 1, 2));
    }

    // ---- give up

    private static void giveUps() {
        due.sentence("the SET; how much; NONE: SEEN quarrels itself.");
        BarrelMoon peace = Due.townOf(TEN_WAYS);
        due.is("nothing to give up", peace.giveUp(0), 0);
        due.is("that costs nothing", peace.giveUp(1), 0);
        peace.see(1, true);
        due.is("all ten", peace.giveUp(0), 1023);
        due.is("all ten cost", peace.giveUp(1), 990);
        peace.see(0, true);
        due.is("seen quarrels", peace.giveUp(0), NONE);
        due.is("seen quarrels", peace.giveUp(1), NONE);
        peace.see(1, false);
        due.is("peace again", peace.giveUp(0), 0);
        peace.see(0, false);
        peace.see(1, true);
        for (int r = 0; r < 10; r++) {
            due.is("those that are left", peace.giveUp(1), 99 * (10 - r));
            peace.forbid(r, true);
        }
        due.is("none is left", peace.giveUp(0), 0);
        BarrelMoon nine = Due.townOf("t2;s1;" + "r99 0;".repeat(9) + "r99 2;");
        due.is("nine of ten", nine.giveUp(0), 511);
        due.is("nine of ten cost", nine.giveUp(1), 891);
        BarrelMoon last = Due.townOf("t8;s14;s15;");
        due.is("the last thing quarrels", last.giveUp(0), NONE);
        due.sentence("GIVE UP: what = 0 the SET, 1 how much; NONE. OUTSIDE.");
        BarrelMoon none = Due.townOf("t8;");
        due.is("no rules", none.giveUp(0), 0);
        due.is("no rules", none.giveUp(1), 0);
        due.is("giveUp(2)", none.giveUp(2), BarrelMoon.OUTSIDE);
        due.is("giveUp(-1)", none.giveUp(-1), BarrelMoon.OUTSIDE);
    }

    private static void giveUpsOfLikeCost() {
        due.sentence("and that cost least together; of like ones the least SET");
        due.is("like ones", Due.townOf("t1;r5 0;r5 1;").giveUp(0), 1);
        due.is("the cheaper", Due.townOf("t1;r5 0;r4 1;").giveUp(0), 2);
        due.is("its cost", Due.townOf("t1;r5 0;r4 1;").giveUp(1), 4);
        // Two of cost 2 and 3, or one of cost 5: the least SET is that of the two, though they are more.
        due.is("two for one", Due.townOf("t1;r2 0;r3 0;r5 1;").giveUp(0), 3);
        due.is("one for two", Due.townOf("t1;r5 1;r2 0;r3 0;").giveUp(0), 1);
        // What costs 0 is given up only where it is needed.
        due.is("for nothing", Due.townOf("t2;r0 2;r0 0;r9 1;r0 3;").giveUp(0), Due.set(0, 1));
        due.is("for nothing", Due.townOf("t2;r0 2;r0 0;r9 1;r0 3;").giveUp(1), 0);
        due.is("a rule ahead of both", Due.townOf("t3;s4;r1 2,4;r9 0,2;r9 1,2;").giveUp(0), 1);
    }

    // ---- words

    private static void wordsUpToThree() {
        due.sentence("WORDS for a SAYING: the fewest SAYINGS (3 at most, neither it nor its DENIAL)");
        BarrelMoon moon = Due.townOf("t8;r1 0,11,13,15;r1 3,13,15;r1 6,15;r1 4;");
        due.is("three", moon.words(0), Due.set(11, 13, 15));
        due.is("two", moon.words(3), Due.set(13, 15));
        due.is("one", moon.words(6), Due.set(15));
        due.is("none needed", moon.words(4), 0);
        due.is("no words", moon.words(8), NONE);
        due.is("not by itself", moon.words(15), NONE);
        due.is("words(16)", moon.words(16), BarrelMoon.UNKNOWN);
        moon.see(15, true);
        due.is("one less", moon.words(0), Due.set(11, 13));
        due.is("one less", moon.words(3), Due.set(13));
        due.is("one less", moon.words(6), 0);
        due.is("seen itself", moon.words(15), 0);
        // The lowest words there are, for the last saying and for the first.
        BarrelMoon low = Due.townOf("t8;r1 15,0;r1 12,0,2;r1 11,0,2,4;r1 0,2;");
        low.forbid(3, true);
        due.is("the lowest word", low.words(15), Due.set(0));
        due.is("the two lowest", low.words(12), Due.set(0, 2));
        due.is("the three lowest", low.words(11), Due.set(0, 2, 4));
        low.forbid(3, false);
        due.is("the lowest for 0", low.words(0), Due.set(2));
        // Four words would be no fewer than the three that the last rule asks for.
        BarrelMoon four = Due.townOf("t8;r1 0,2,4,6;r1 2,8;r1 4,10;r1 6,12,14;");
        due.is("three of seven", four.words(0), Due.set(2, 4, 6));
    }

    private static void wordsThatQuarrel() {
        due.sentence("which, SEEN besides, make it FOLLOW and no THING of what FOLLOWS QUARREL");
        BarrelMoon moon = Due.townOf("t8;r1 0,2;r1 15,2;r1 0,4,6;r1 3,14;");
        due.is("one word", moon.words(0), Due.set(2));
        moon.see(14, true);
        due.is("that quarrels with what is seen", moon.words(0), Due.set(4, 6));
        moon.see(7, true);
        due.is("a word that quarrels with what is seen", moon.words(0), NONE);
        moon.see(7, false);
        moon.see(15, true);
        due.is("seen quarrels itself", moon.words(0), NONE);
        due.is("seen quarrels itself: what is seen", moon.words(14), NONE);
        BarrelMoon denial = Due.townOf("t2;r1 0,1;r1 2,3;");
        due.is("not by its denial", denial.words(0), NONE);
        denial.see(1, true);
        due.is("its denial is seen", denial.words(0), NONE);
        BarrelMoon brings = Due.townOf("t2;r1 0,2;r1 1,2;");
        due.is("its denial would follow, too", brings.words(0), NONE);
    }

    private static void wordsOfLikeNumber() {
        due.sentence("of like ones the least SET: the SET; NONE. ASKED");
        BarrelMoon pairs = Due.townOf("t6;r1 0,2,11;r1 0,10,3;r1 0,9,4;r1 0,8,5;r1 0,8,7;");
        due.is("the least pair", pairs.words(0), Due.set(5, 8));
        pairs.forbid(3, true);
        due.is("the next pair", pairs.words(0), Due.set(7, 8));
        pairs.forbid(4, true);
        due.is("the next pair", pairs.words(0), Due.set(4, 9));
        pairs.forbid(2, true);
        due.is("the next pair", pairs.words(0), Due.set(3, 10));
        pairs.forbid(1, true);
        due.is("the last pair", pairs.words(0), Due.set(2, 11));
        pairs.forbid(0, true);
        due.is("none is left", pairs.words(0), NONE);
        BarrelMoon threes = Due.townOf("t8;r1 15,2,4,13;r1 15,10,8,12;r1 15,9,11,6;");
        due.is("the least three", threes.words(15), Due.set(6, 9, 11));
        BarrelMoon fewer = Due.townOf("t8;r1 0,2,4;r1 0,15;");
        due.is("one of a great number ahead of two", fewer.words(0), Due.set(15));
    }

    // ---- step, barred

    private static void steps() {
        due.sentence("STEP: RULES (a SET) without each of which alone a SAYING, which FOLLOWS, would not follow;"
                + " 0: it does not, or there is none such.");
        BarrelMoon moon = Due.townOf("t3;s0;r1 2,0;r1 4,2;r1 4,2;");
        due.is("the one", moon.step(2), 1);
        due.is("one of three", moon.step(4), 1);
        due.is("it does not follow", moon.step(3), 0);
        due.is("it is seen", moon.step(0), 0);
        moon.see(2, true);
        due.is("none such", moon.step(4), 0);
        moon.forbid(1, true);
        due.is("the one that is left", moon.step(4), 4);
        moon.forbid(2, true);
        due.is("it does not follow any more", moon.step(4), 0);
        due.is("step(5)", moon.step(5), 0);
        due.is("step(6)", moon.step(6), BarrelMoon.UNKNOWN);
        BarrelMoon ten = Due.townOf(TEN_WAYS);
        due.is("ten ways: none such", ten.step(0), 0);
        for (int r = 0; r < 9; r++) {
            ten.forbid(r, true);
        }
        due.is("the tenth", ten.step(0), 512);
    }

    private static void bars() {
        due.sentence("BARRED: the fewest RULES to be FORBIDDEN besides, so that a SAYING does not FOLLOW;"
                + " of like ones the least SET: the SET; NONE: it is SEEN.");
        BarrelMoon ten = Due.townOf(TEN_WAYS);
        due.is("all ten", ten.barred(0), 1023);
        due.is("it does not follow", ten.barred(1), 0);
        due.is("barred(2)", ten.barred(2), BarrelMoon.UNKNOWN);
        for (int r = 0; r < 10; r++) {
            ten.forbid(r, true);
            due.is("besides those", ten.barred(0), 1023 & ~((2 << r) - 1));
        }
        ten.see(0, true);
        due.is("it is seen", ten.barred(0), NONE);
        ten.forbid(0, false);
        due.is("it is seen and follows", ten.barred(0), NONE);
        BarrelMoon like = Due.townOf("t3;s0;r1 2,0;r1 4,2;r1 1,4;");
        due.is("of three the least", like.barred(1), 1);
        like.see(2, true);
        due.is("of two the least", like.barred(1), 2);
        like.see(4, true);
        due.is("the last", like.barred(1), 4);
        // Rules 0 and 1 together, or 2 alone: fewer comes ahead of less.
        due.is("fewer", Due.townOf("t3;r1 2;r1 2;r1 4,2;").barred(4), 4);
        // Two ways of two rules each: the least SET has one of each.
        due.is("one of each", Due.townOf("t4;r1 2;r1 0,2;r1 4;r1 0,4;").barred(0), Due.set(0, 2));
    }

    // ---- never, round

    private static void nevers() {
        due.sentence("NEVER: SAYINGS (a SET) that no RULE which is not FORBIDDEN concludes.");
        due.is("no rules", Due.townOf("t8;s0;").never(), 65535);
        due.is("no rules, one thing", Due.townOf("t1;").never(), 3);
        BarrelMoon all = Due.townOf("t5;r1 0;r1 1;r1 2;r1 3;r1 4;r1 5;r1 6;r1 7;r1 8;r1 9,8;");
        due.is("all are concluded", all.never(), 0);
        for (int r = 0; r < 10; r++) {
            all.forbid(r, true);
            due.is("what is forbidden is never concluded", all.never(), (2 << r) - 1);
        }
        // A rule that concludes it is enough, though it never comes to it; to be seen is not.
        due.is("by a rule", Due.townOf("t2;r1 2,0;s3;").never(), Due.set(0, 1, 3));
    }

    private static void rounds() {
        due.sentence("ROUND: SAYINGS (a SET) that a RULE, not FORBIDDEN, concludes from what FOLLOWS from that SAYING alone.");
        due.is("no rules", Due.townOf("t8;s0;").round(), 0);
        BarrelMoon ring = Due.townOf("t5;r1 1,0;r1 2,1;r1 3,2;r1 4,3;r1 5,4;r1 6,5;r1 7,6;r1 8,7;r1 9,8;r1 0,9;");
        due.is("a ring of ten", ring.round(), 1023);
        ring.forbid(4, true);
        due.is("the ring is broken", ring.round(), 0);
        ring.see(5, true);
        due.is("that it is seen does not mend it", ring.round(), 0);
        BarrelMoon with = Due.townOf("t3;s4;r1 2,0;r1 0,2,4;");
        due.is("4 is needed besides", with.round(), 0);
        BarrelMoon open = Due.townOf("t3;r1 2,0;r1 0,2,4;r1 4;");
        due.is("4 follows from nothing", open.round(), Due.set(0, 2, 4));
        BarrelMoon back = Due.townOf("t8;r1 15,14;r1 14,15;");
        due.is("the last two", back.round(), Due.set(14, 15));
    }

    // ---- vote

    private static void votesOfFewMen() {
        due.sentence("VOTE: odds that of n men (1 .. 9) more than half say yes, each by q of a hundred (0 .. 100)");
        BarrelMoon moon = new BarrelMoon();
        for (int q = 0; q <= 100; q++) {
            due.is("vote(1, " + q + ")", moon.vote(1, q), q * 10000000);
            due.is("vote(2, " + q + ")", moon.vote(2, q), q * q * 100000);
        }
        for (int n = 1; n <= 9; n++) {
            due.is("vote(" + n + ", 0)", moon.vote(n, 0), 0);
            due.is("vote(" + n + ", 100)", moon.vote(n, 100), 1000000000);
            due.is("vote(" + n + ", -1)", moon.vote(n, -1), BarrelMoon.OUTSIDE);
            due.is("vote(" + n + ", 101)", moon.vote(n, 101), BarrelMoon.OUTSIDE);
        }
        due.is("vote(0, 0)", moon.vote(0, 0), BarrelMoon.OUTSIDE);
        due.is("vote(0, 100)", moon.vote(0, 100), BarrelMoon.OUTSIDE);
        due.is("vote(10, 0)", moon.vote(10, 0), BarrelMoon.OUTSIDE);
        due.is("vote(10, 100)", moon.vote(10, 100), BarrelMoon.OUTSIDE);
    }

    /** Reckoned apart from the class; where a part is cut the odds are not those of the books. */
    private static void votesCutDown() {
        due.sentence("parts of a BILLION by how many say yes, man by man (times q / 100, cut, one more; the rest as many)");
        BarrelMoon moon = new BarrelMoon();
        due.is("vote(3, 1)", moon.vote(3, 1), 298000);
        due.is("vote(4, 1)", moon.vote(4, 1), 3970);
        due.is("vote(5, 1)", moon.vote(5, 1), 9850);
        due.is("vote(6, 3)", moon.vote(6, 3), 11573);
        due.is("vote(7, 1)", moon.vote(7, 1), 341);
        due.is("vote(7, 67)", moon.vote(7, 67), 831785881);
        due.is("vote(8, 1)", moon.vote(8, 1), 4);
        due.is("vote(9, 1)", moon.vote(9, 1), 10);
        due.is("vote(9, 7)", moon.vote(9, 7), 166621);
        due.is("vote(9, 33)", moon.vote(9, 33), 139775926);
        due.is("vote(9, 99)", moon.vote(9, 99), 999999985);
        due.is("vote(9, 1) again", moon.vote(9, 1), 10);
        due.is("vote(1, 1) behind it", moon.vote(1, 1), 10000000);
    }

    private static void votesOfMoreThanHalf() {
        due.sentence("those of more than n / 2 together");
        BarrelMoon moon = new BarrelMoon();
        int[] halves = {500000000, 250000000, 500000000, 312500000, 500000000, 343750000, 500000000, 363281250, 500000000};
        for (int n = 1; n <= 9; n++) {
            due.is("vote(" + n + ", 50)", moon.vote(n, 50), halves[n - 1]);
        }
    }

    // ---- asked

    private static void sixAsked() {
        due.sentence("ASKED (6 at most): from a SET of SAYINGS they concluded a SAYING, or not.");
        BarrelMoon moon = Due.townOf("t3;r1 2,0;");
        for (int i = 0; i < 6; i++) {
            due.is("asked", moon.told(10), i);
            due.is("ask " + (i + 1), moon.ask(1 << i, i, true), i + 1);
        }
        due.is("believed", moon.believed(0), 2);
        due.is("the seventh", moon.ask(1, 2, true), BarrelMoon.FULL);
        due.is("asked", moon.told(10), 6);
        due.is("the seventh does not count", moon.believed(0), 2);
        // The sixth counts.
        BarrelMoon last = Due.townOf("t3;r1 2,0;");
        for (int i = 0; i < 5; i++) {
            last.ask(1, 0, true);
        }
        due.is("believed by five", last.believed(0), 2);
        due.is("the sixth", last.ask(1, 2, true), 6);
        due.is("believed by six", last.believed(0), 1);
        due.is("the least", last.believed(1), 1);
    }

    private static void believedSets() {
        due.sentence("BELIEVED: SETS of RULES (FORBIDDEN ones, too) by which alone all that is ASKED is so"
                + " (concluded: it FOLLOWS): how many; the least; SURE: RULES in all of them (0 without any).");
        for (int rules = 0; rules <= 10; rules++) {
            BarrelMoon moon = Due.townOf("t1;" + "r1 0;".repeat(rules));
            for (int r = 0; r < rules; r++) {
                moon.forbid(r, true);
            }
            believed(moon, 1 << rules, 0, 0);
            moon.ask(0, 0, true);
            believed(moon, (1 << rules) - 1, rules > 0 ? 1 : NONE, rules == 1 ? 1 : 0);
            moon.tear();
            moon.ask(0, 0, false);
            believed(moon, 1, 0, 0);
        }
        // Every rule is sure.
        BarrelMoon ring = Due.townOf("t5;r1 1,0;r1 2,1;r1 3,2;r1 4,3;r1 5,4;r1 6,5;r1 7,6;r1 8,7;r1 9,8;r1 0,9;");
        ring.ask(2, 0, true);
        believed(ring, 2, 1022, 1022);
        ring.ask(1, 1, true);
        believed(ring, 1, 1023, 1023);
        due.sentence("BELIEVED: what = 0 how many, 1 the least (NONE), 2 SURE. OUTSIDE.");
        due.is("believed(3)", ring.believed(3), BarrelMoon.OUTSIDE);
        due.is("believed(-1)", ring.believed(-1), BarrelMoon.OUTSIDE);
        // From the SET alone, whatever is SEEN.
        BarrelMoon seen = Due.townOf("t2;r1 2,0;s0;s2;");
        seen.ask(0, 2, false);
        believed(seen, 2, 0, 0);
    }

    private static void believedNone() {
        due.sentence("SURE: RULES in all of them (0 without any)");
        BarrelMoon moon = Due.townOf("t2;r1 2;r1 0,2;");
        moon.ask(0, 1, true);
        believed(moon, 0, NONE, 0);
        moon.tear();
        // What is told is so: it follows from itself by no rule.
        moon.ask(2, 1, false);
        believed(moon, 0, NONE, 0);
        moon.tear();
        moon.ask(0, 0, true);
        believed(moon, 1, 3, 3);
        moon.ask(0, 2, false);
        believed(moon, 0, NONE, 0);
    }

    private static void believed(BarrelMoon moon, int count, int least, int sure) {
        due.is("believed(0)", moon.believed(0), count);
        due.is("believed(1)", moon.believed(1), least);
        due.is("believed(2)", moon.believed(2), sure);
    }

    private static void askNextNone() {
        due.sentence("of like ones the least; NONE: none parts them.");
        due.is("no rules", Due.townOf("t8;s0;").askNext(), NONE);
        BarrelMoon moon = Due.townOf("t2;r1 2,0;");
        due.is("two sets, from nothing", moon.askNext(), NONE);
        moon.see(0, true);
        due.is("two sets", moon.askNext(), 2);
        moon.see(2, true);
        due.is("it follows by both", moon.askNext(), NONE);
        moon.see(2, false);
        moon.ask(1, 2, true);
        due.is("one set", moon.askNext(), NONE);
        moon.ask(1, 2, false);
        due.is("no set", moon.askNext(), NONE);
    }

    private static void askNextBest() {
        due.sentence("the greatest part that would answer alike is least; of like ones the least");
        // Of 1024 sets 1023 conclude 0: the worst that still parts them.
        due.is("1023 of 1024", Due.townOf(TEN_WAYS).askNext(), 0);
        // 0 by 5 of 8, 2 by 4 of 8: 2 is better, though later.
        due.is("half of them", Due.townOf("t2;r1 0;r1 0,2;r1 2;").askNext(), 2);
        // 0 by 6 of 8, 3 by 3 of 8: what is less than half is better by its other part, which is 5.
        due.is("three of eight", Due.townOf("t2;r1 0;r1 0;r1 3,0;").askNext(), 3);
        due.is("three of eight, told first", Due.townOf("t2;r1 3;r1 3;r1 0,3;").askNext(), 0);
        // 0 by 4 of 8, 1 by 2 of 8: fewest that say yes are not what is looked for, nor are most.
        due.is("half of them, told first", Due.townOf("t2;r1 0;r1 1,0;r1 1,0,3;").askNext(), 0);
        due.is("half of them, told last", Due.townOf("t2;r1 3;r1 0,3;").askNext(), 3);
        // 0 and 1 by 12 of 16 each.
        due.is("of like ones the least", Due.townOf("t2;s2;r1 0,2;r1 0;r1 1;r1 1;").askNext(), 0);
        // 1 by 2 of 8, 2 and 14 by 4 of 8.
        due.is("of like ones the least", Due.townOf("t8;r1 2;r1 1,2;r1 14;").askNext(), 2);
        due.is("the last saying", Due.townOf("t8;r1 15;").askNext(), 15);
        // Asked over and over on one object, it is counted anew each time.
        BarrelMoon moon = Due.townOf("t2;r1 0;r1 0;r1 3,0;s0;");
        due.is("half of them", moon.askNext(), 3);
        moon.see(0, false);
        due.is("three of eight", moon.askNext(), 3);
        moon.ask(0, 3, false);
        due.is("0 by 3 of 5", moon.askNext(), 0);
        moon.ask(0, 0, true);
        due.is("none parts them", moon.askNext(), NONE);
        moon.tear();
        for (int i = 0; i < 5; i++) {
            due.is("three of eight again", moon.askNext(), 3);
        }
    }

    // ---- the book

    private static void fifteenEntries() {
        due.sentence("An entry behind THE BOOK (0, 1): how many. UNKNOWN, OUTSIDE, FULL (15).");
        BarrelMoon moon = Due.townOf("t8;s15;");
        for (int i = 0; i < 15; i++) {
            due.is("entries", moon.told(11), i);
            due.is("entry " + (i + 1), moon.write(i == 14 ? 15 : i, i == 14 ? 1 : 0), i + 1);
        }
        due.is("nothing is wrong", moon.judge(), NONE);
        due.is("the sixteenth", moon.write(15, 0), BarrelMoon.FULL);
        due.is("entries", moon.told(11), 15);
        due.is("the sixteenth does not count", moon.judge(), NONE);
        moon.see(15, false);
        due.is("the fifteenth does", moon.judge(), 14);
        due.is("write(0, -1)", moon.write(0, -1), BarrelMoon.OUTSIDE);
        due.is("write(0, 2)", moon.write(0, 2), BarrelMoon.OUTSIDE);
        due.is("write(16, 0)", moon.write(16, 0), BarrelMoon.UNKNOWN);
    }

    private static void tornPages() {
        due.sentence("Nothing ASKED, THE BOOK is empty: how much both had.");
        BarrelMoon moon = Due.townOf("t2;r1 2,0;s0;");
        due.is("tear nothing", moon.tear(), 0);
        for (int i = 0; i < 6; i++) {
            moon.ask(0, 0, true);
        }
        for (int i = 0; i < 15; i++) {
            moon.write(0, 0);
        }
        due.is("believed ahead", moon.believed(0), 0);
        due.is("wrong ahead", moon.judge(), 0);
        due.is("tear both", moon.tear(), 21);
        due.is("tear again", moon.tear(), 0);
        due.is("believed", moon.believed(0), 2);
        due.is("nothing is wrong", moon.judge(), NONE);
        due.is("ask is the first again", moon.ask(1, 2, true), 1);
        due.is("tear what was asked", moon.tear(), 1);
        due.is("write is the first again", moon.write(2, 1), 1);
        due.is("tear the book", moon.tear(), 1);
        due.is("asked", moon.told(10), 0);
        due.is("entries", moon.told(11), 0);
    }

    private static void wrongEntries() {
        due.sentence("WRONG: the first that is otherwise now; NONE.");
        BarrelMoon moon = Due.townOf("t8;s0;");
        due.is("an empty book", moon.judge(), NONE);
        for (int i = 0; i < 15; i++) {
            moon.write(i, i == 0 ? 1 : 0);
        }
        due.is("all as told", moon.judge(), NONE);
        for (int i = 14; i >= 1; i--) {
            moon.see(i, true);
            due.is("entry " + i + " is the first", moon.judge(), i);
        }
        moon.see(0, false);
        due.is("entry 0 is the first", moon.judge(), 0);
        due.sentence("THE BOOK (15 at most) tells whether SAYINGS FOLLOW from SEEN (0, 1)");
        BarrelMoon again = Due.townOf("t8;s0;");
        again.write(0, 1);
        again.write(0, 0);
        due.is("told both ways", again.judge(), 1);
        again.see(0, false);
        due.is("told both ways", again.judge(), 0);
    }
}
