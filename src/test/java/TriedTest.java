/** Promises 13 to 21: what is tried, from what is seen, without changing anything. */
public final class TriedTest {
    private static final Due due = new Due("TriedTest");

    public static void main(String[] args) {
        following();
        proving();
        givingUp();
        bringingToByWords();
        stepping();
        barring();
        neverAndRound();
        voting();
        nothingChanges();
        due.end();
    }

    private static void following() {
        BarrelMoon moon = Due.townOf("t4;r1 6,4;r1 4,2,1;r1 2,0;s0;");
        due.is("from nothing", moon.follows(0), 0);
        due.is("from 0", moon.follows(1), Due.set(0, 2));
        due.is("rules in any order", moon.follows(3), Due.set(0, 1, 2, 4, 6));
        due.is("from all", moon.follows(255), 255);
        due.is("from a ninth", moon.follows(256), BarrelMoon.UNKNOWN);
        due.is("from 257", moon.follows(257), BarrelMoon.UNKNOWN);
        due.is("from -1", moon.follows(-1), BarrelMoon.UNKNOWN);
        due.is("from the least int", moon.follows(Integer.MIN_VALUE), BarrelMoon.UNKNOWN);
        moon.forbid(1, true);
        due.is("a forbidden rule", moon.follows(3), Due.set(0, 1, 2));
        moon.debate();
        due.is("what is held does not count", moon.follows(2), Due.set(1));
        BarrelMoon eight = Due.townOf("t8;r0 0;");
        due.is("without premises", eight.follows(0), 1);
        due.is("16 sayings", eight.follows(65535), 65535);
        due.is("a seventeenth", eight.follows(65536), BarrelMoon.UNKNOWN);
    }

    private static void proving() {
        // Saying 6 by 0 and 1 in two steps, by 3 and 4 likewise, by 2 alone from 5 which is not seen.
        BarrelMoon moon = Due.townOf("t4;r1 2,0;r1 6,2;r9 6,5;r1 4,0;r1 6,4;r1 7;s0;");
        due.is("how many", moon.proof(6, 0), 2);
        due.is("the least set", moon.proof(6, 1), Due.set(0, 1));
        due.is("seen: none needed", moon.proof(0, 0), 0);
        due.is("seen: the empty set", moon.proof(0, 1), 0);
        due.is("without premises", moon.proof(7, 1), Due.set(5));
        due.is("never", moon.proof(3, 0), BarrelMoon.NONE);
        due.is("never", moon.proof(3, 1), BarrelMoon.NONE);
        moon.forbid(0, true);
        due.is("the other way", moon.proof(6, 1), Due.set(3, 4));
        moon.see(5, true);
        due.is("fewer rules in a greater set", moon.proof(6, 1), Due.set(2));
        due.is("how many", moon.proof(6, 0), 1);
        moon.debate();
        moon.see(0, false);
        due.is("what is held does not count", moon.proof(4, 0), BarrelMoon.NONE);
        due.is("proof(8, 0)", moon.proof(8, 0), BarrelMoon.UNKNOWN);
        due.is("proof(-1, 0)", moon.proof(-1, 0), BarrelMoon.UNKNOWN);
        due.is("proof(8, 2): unknown comes first", moon.proof(8, 2), BarrelMoon.UNKNOWN);
        due.is("proof(0, 2)", moon.proof(0, 2), BarrelMoon.OUTSIDE);
        due.is("proof(0, -1)", moon.proof(0, -1), BarrelMoon.OUTSIDE);
        BarrelMoon greater = Due.townOf("t3;r1 2,0;r1 4,2;r1 4,0;s0;");
        due.is("one rule of a greater number than two", greater.proof(4, 1), Due.set(2));
    }

    private static void givingUp() {
        BarrelMoon moon = Due.townOf("t2;r5 2,0;r9 3,2;r6 3,0;s0;");
        // Without 0 rule 2 still concludes 3, but 2 is not concluded then.
        due.is("the cheapest", moon.giveUp(0), Due.set(0));
        due.is("how much", moon.giveUp(1), 5);
        moon.forbid(2, true);
        due.is("still the cheapest", moon.giveUp(0), Due.set(0));
        moon.forbid(0, true);
        due.is("peace", moon.giveUp(0), 0);
        due.is("peace costs nothing", moon.giveUp(1), 0);
        moon.see(1, true);
        due.is("seen quarrels", moon.giveUp(0), BarrelMoon.NONE);
        due.is("seen quarrels", moon.giveUp(1), BarrelMoon.NONE);
        due.is("giveUp(2)", moon.giveUp(2), BarrelMoon.OUTSIDE);
        due.is("giveUp(-1)", moon.giveUp(-1), BarrelMoon.OUTSIDE);
        BarrelMoon like = Due.townOf("t2;r3 2;r3 3;");
        due.is("of like ones the least set", like.giveUp(0), 1);
        BarrelMoon free = Due.townOf("t2;r0 0;r7 2;r7 3;r0 1;");
        due.is("free rules: only as many as needed", free.giveUp(0), Due.set(0, 1));
        due.is("how much", free.giveUp(1), 7);
        BarrelMoon two = Due.townOf("t3;r50 2,0;r30 3,0;r30 3;r99 4;r10 5,2;s0;");
        due.is("two cheap ones or a dear one", two.giveUp(0), Due.set(0));
        due.is("how much", two.giveUp(1), 50);
        BarrelMoon dear = Due.townOf("t3;r50 2,0;r20 3,0;r20 3;r99 4;r9 5,2;s0;");
        due.is("three cheap ones are cheaper", dear.giveUp(0), Due.set(1, 2, 4));
        due.is("how much", dear.giveUp(1), 49);
        BarrelMoon ten = Due.townOf("t5;r99 0;r99 1;r99 2;r99 3;r99 4;r99 5;r99 6;r99 7;r99 8;r99 9;");
        due.is("five of ten", ten.giveUp(0), Due.set(0, 2, 4, 6, 8));
        due.is("five of ten cost", ten.giveUp(1), 495);
        BarrelMoon all = Due.townOf("t5;s0;s2;s4;s6;s8;r99 1;r99 1;r99 3;r99 3;r99 5;r99 5;r99 7;r99 7;r99 9;r99 9;");
        due.is("all ten", all.giveUp(0), 1023);
        due.is("all ten cost", all.giveUp(1), 990);
    }

    private static void bringingToByWords() {
        BarrelMoon moon = Due.townOf("t5;r1 0,2,4,6;r1 0,8,2;r1 9,2,8;");
        due.is("three words, as two quarrel", moon.words(0), Due.set(2, 4, 6));
        moon.forbid(2, true);
        due.is("two words", moon.words(0), Due.set(2, 8));
        moon.see(4, true);
        moon.see(6, true);
        due.is("one word besides", moon.words(0), Due.set(2));
        moon.see(2, true);
        due.is("no word needed", moon.words(0), 0);
        due.is("seen itself", moon.words(2), 0);
        moon.see(3, true);
        due.is("seen quarrels", moon.words(0), BarrelMoon.NONE);
        moon.see(3, false);
        due.is("its denial is no word", moon.words(1), BarrelMoon.NONE);
        due.is("words(10)", moon.words(10), BarrelMoon.UNKNOWN);
        due.is("words(-1)", moon.words(-1), BarrelMoon.UNKNOWN);
        BarrelMoon four = Due.townOf("t6;r1 0,2,4,6;r1 2,8,10;");
        due.is("never four words", four.words(0), Due.set(2, 4, 6));
        four.forbid(0, true);
        due.is("no rule: no words", four.words(0), BarrelMoon.NONE);
        BarrelMoon deep = Due.townOf("t8;r1 0,2,4;r1 2,6,8;r1 4,10,12;r1 3,2;r1 5,4;");
        due.is("four would be needed, three quarrel", deep.words(0), BarrelMoon.NONE);
        BarrelMoon denial = Due.townOf("t2;r1 0,1;r1 0,3;");
        due.is("a word that is not its denial", denial.words(0), Due.set(3));
        BarrelMoon least = Due.townOf("t4;r1 0,7;r1 0,2,3;r1 0,4,5;");
        due.is("one word in a greater set", least.words(0), Due.set(7));
        BarrelMoon sets = Due.townOf("t8;r1 0,12,2,4;r1 0,10,6,8;");
        due.is("of like ones the least set", sets.words(0), Due.set(6, 8, 10));
        BarrelMoon first = Due.townOf("t8;r1 2,0;r1 4,0,3;r1 6,1,3,5;r1 3,2;");
        due.is("the first alone", first.words(2), BarrelMoon.NONE);
        first.forbid(3, true);
        due.is("the first alone", first.words(2), Due.set(0));
        first.forbid(0, true);
        due.is("the first of two", first.words(4), Due.set(0, 3));
        due.is("the first of three", first.words(6), Due.set(1, 3, 5));
        BarrelMoon last = Due.townOf("t8;r1 0,15,13,11;");
        due.is("the last three", last.words(0), Due.set(11, 13, 15));
        BarrelMoon elsewhere = Due.townOf("t3;r1 0;r1 4;r1 5;");
        due.is("a quarrel elsewhere", elsewhere.words(0), BarrelMoon.NONE);
        elsewhere.forbid(1, true);
        due.is("no quarrel", elsewhere.words(0), 0);
    }

    private static void stepping() {
        BarrelMoon moon = Due.townOf("t4;r1 2,0;r1 4,2;r1 4,0;r1 6,4,2;s0;");
        due.is("the one", moon.step(2), Due.set(0));
        due.is("two ways: none is", moon.step(4), 0);
        due.is("both", moon.step(6), Due.set(0, 3));
        due.is("seen: none", moon.step(0), 0);
        due.is("does not follow", moon.step(1), 0);
        moon.forbid(2, true);
        due.is("all of them", moon.step(6), Due.set(0, 1, 3));
        due.is("the forbidden is none of them", moon.step(4), Due.set(0, 1));
        moon.see(2, true);
        due.is("from what is seen", moon.step(6), Due.set(1, 3));
        due.is("step(8)", moon.step(8), BarrelMoon.UNKNOWN);
        due.is("step(-1)", moon.step(-1), BarrelMoon.UNKNOWN);
    }

    private static void barring() {
        BarrelMoon moon = Due.townOf("t4;r1 2,0;r1 4,2;r1 4,0;r1 6,4,2;s0;");
        due.is("the one", moon.barred(2), Due.set(0));
        due.is("two, the least set", moon.barred(4), Due.set(0, 2));
        due.is("one, the least set", moon.barred(6), Due.set(0));
        due.is("seen", moon.barred(0), BarrelMoon.NONE);
        due.is("does not follow", moon.barred(1), 0);
        moon.forbid(0, true);
        due.is("besides what is forbidden", moon.barred(4), Due.set(2));
        due.is("does not follow any more", moon.barred(6), 0);
        due.is("barred(8)", moon.barred(8), BarrelMoon.UNKNOWN);
        due.is("barred(-1)", moon.barred(-1), BarrelMoon.UNKNOWN);
        BarrelMoon fewer = Due.townOf("t3;r1 2,0;r1 3,0;r1 4,2;r1 4,3;r1 5,4;s0;");
        due.is("one in a greater set", fewer.barred(5), Due.set(4));
        BarrelMoon ten = Due.townOf("t1;r0 0;r0 0;r0 0;r0 0;r0 0;r0 0;r0 0;r0 0;r0 0;r0 0;");
        due.is("all ten", ten.barred(0), 1023);
        due.is("not concluded", ten.barred(1), 0);
    }

    private static void neverAndRound() {
        BarrelMoon moon = Due.townOf("t3;r1 2,0;r1 0,2;r1 4;r1 5,4,1;s1;");
        due.is("never", moon.never(), Due.set(1, 3));
        due.is("round", moon.round(), Due.set(0, 2, 4));
        moon.forbid(1, true);
        due.is("never, one forbidden", moon.never(), Due.set(0, 1, 3));
        due.is("round, one forbidden", moon.round(), Due.set(4));
        moon.forbid(0, true);
        moon.forbid(2, true);
        moon.forbid(3, true);
        due.is("never, all forbidden", moon.never(), 63);
        due.is("round, all forbidden", moon.round(), 0);
        BarrelMoon two = Due.townOf("t3;r1 2,0;r1 4,2;r1 0,4,3;r1 1,0;r1 3,1;");
        due.is("a round of more steps", two.round(), Due.set(0));
        BarrelMoon seen = Due.townOf("t2;r1 2,0;s0;");
        due.is("what is seen does not count", seen.round(), 0);
        BarrelMoon itself = Due.townOf("t2;r1 2;r1 0,2;");
        due.is("concluded without it", itself.round(), Due.set(0, 2));
        due.is("never of 8", Due.townOf("t8;r1 0;").never(), 65534);
    }

    private static void voting() {
        BarrelMoon moon = new BarrelMoon();
        due.is("vote(0, 50)", moon.vote(0, 50), BarrelMoon.OUTSIDE);
        due.is("vote(10, 50)", moon.vote(10, 50), BarrelMoon.OUTSIDE);
        due.is("vote(5, -1)", moon.vote(5, -1), BarrelMoon.OUTSIDE);
        due.is("vote(5, 101)", moon.vote(5, 101), BarrelMoon.OUTSIDE);
        due.is("vote(1, 37)", moon.vote(1, 37), 370000000);
        due.is("vote(2, 50)", moon.vote(2, 50), 250000000);
        due.is("vote(3, 50)", moon.vote(3, 50), 500000000);
        due.is("vote(4, 50)", moon.vote(4, 50), 312500000);
        due.is("vote(9, 100)", moon.vote(9, 100), 1000000000);
        due.is("vote(9, 0)", moon.vote(9, 0), 0);
        for (int n = 1; n <= 9; n++) {
            // One object for 909 votes would have more than its 512 calls.
            BarrelMoon voters = new BarrelMoon();
            for (int q = 0; q <= 100; q++) {
                due.is("vote(" + n + ", " + q + ")", voters.vote(n, q), manByMan(n, q));
            }
        }
    }

    private static long manByMan(int n, int q) {
        long[] parts = {1000000000L};
        for (int man = 0; man < n; man++) {
            long[] next = new long[parts.length + 1];
            for (int yes = 0; yes < parts.length; yes++) {
                long more = parts[yes] * q / 100;
                next[yes + 1] += more;
                next[yes] += parts[yes] - more;
            }
            parts = next;
        }
        long sum = 0;
        for (int yes = 0; yes <= n; yes++) {
            sum += 2 * yes > n ? parts[yes] : 0;
        }
        return sum;
    }

    private static void nothingChanges() {
        BarrelMoon moon = Due.townOf("t4;r1 2,0;r1 4,2;r1 5,0;r1 6,4,2;s0;");
        moon.debate();
        moon.ask(1, 2, true);
        moon.write(2, 1);
        moon.seed(17);
        String before = Due.look(moon);
        for (int s = -1; s <= 8; s++) {
            moon.follows(s);
            moon.proof(s, 0);
            moon.proof(s, 1);
            moon.words(s);
            moon.step(s);
            moon.barred(s);
            moon.giveUp(s);
            moon.vote(s, s);
            moon.believed(s);
        }
        moon.never();
        moon.round();
        moon.askNext();
        moon.judge();
        due.holds("nothing changes by what is tried", before.equals(Due.look(moon)));
        due.is("nor the seed", moon.seed(17), 17);
    }
}
