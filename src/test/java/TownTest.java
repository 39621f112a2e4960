/** Promises 1 to 6: a new object, the text, its faults, what is told. */
public final class TownTest {
    private static final Due due = new Due("TownTest");

    public static void main(String[] args) {
        newObject();
        feeding();
        goodTexts();
        faultsOfStanding();
        faultsOfNumbers();
        faultsOfNumberOfClauses();
        faultsOfTellingTwice();
        faultChangesNothing();
        townBeginsAnew();
        emptyText();
        manyTowns();
        toldAndRule();
        due.end();
    }

    private static void newObject() {
        BarrelMoon moon = new BarrelMoon();
        for (int what = 0; what <= 12; what++) {
            due.is("new told(" + what + ")", moon.told(what), 0);
        }
        due.is("new fault", moon.fault(), BarrelMoon.NONE);
        due.is("new rule", moon.rule(0, 0), BarrelMoon.UNKNOWN);
        due.is("new see", moon.see(0, true), BarrelMoon.UNKNOWN);
        due.is("new forbid", moon.forbid(0, true), BarrelMoon.UNKNOWN);
        due.is("new debate", moon.debate(), BarrelMoon.NOT);
        due.is("new drop", moon.drop(), BarrelMoon.NOT);
        due.is("new drift", moon.drift(1), BarrelMoon.NOT);
        due.is("new drift outside", moon.drift(0), BarrelMoon.OUTSIDE);
        due.is("new undo", moon.undo(), BarrelMoon.NOT);
        due.is("new follows(0)", moon.follows(0), 0);
        due.is("new follows(1)", moon.follows(1), BarrelMoon.UNKNOWN);
        due.is("new ask", moon.ask(0, 0, true), BarrelMoon.UNKNOWN);
        due.is("new write", moon.write(0, 5), BarrelMoon.UNKNOWN);
        due.is("new proof", moon.proof(0, 5), BarrelMoon.UNKNOWN);
        due.is("new words", moon.words(0), BarrelMoon.UNKNOWN);
        due.is("new step", moon.step(0), BarrelMoon.UNKNOWN);
        due.is("new barred", moon.barred(0), BarrelMoon.UNKNOWN);
        due.is("new never", moon.never(), 0);
        due.is("new round", moon.round(), 0);
        due.is("new giveUp set", moon.giveUp(0), 0);
        due.is("new giveUp cost", moon.giveUp(1), 0);
        due.is("new believed", moon.believed(0), 1);
        due.is("new believed least", moon.believed(1), 0);
        due.is("new believed sure", moon.believed(2), 0);
        due.is("new askNext", moon.askNext(), BarrelMoon.NONE);
        due.is("new tear", moon.tear(), 0);
        due.is("new judge", moon.judge(), BarrelMoon.NONE);
        due.is("new goBack", moon.goBack(0), BarrelMoon.NOT);
        due.is("new keep", moon.keep(0), 1);
        due.is("goBack to no town", moon.goBack(0), 1);
        due.is("seed was", moon.seed(7), 0);
    }

    private static void feeding() {
        BarrelMoon moon = new BarrelMoon();
        due.is("feed(-1)", moon.feed(-1), BarrelMoon.OUTSIDE);
        due.is("feed(256)", moon.feed(256), BarrelMoon.OUTSIDE);
        due.is("feed(0)", moon.feed(0), 1);
        due.is("feed(255)", moon.feed(255), 2);
        for (int i = 3; i <= 240; i++) {
            due.is("feed " + i, moon.feed(' '), i);
        }
        due.is("feed 241", moon.feed(' '), BarrelMoon.FULL);
        due.is("feed outside ahead of full", moon.feed(256), BarrelMoon.OUTSIDE);
        due.is("feed least int ahead of full", moon.feed(Integer.MIN_VALUE), BarrelMoon.OUTSIDE);
        due.is("letters", moon.told(2), 240);
        due.is("town of junk", moon.town(), -11);
        due.is("fault of junk", moon.fault(), 0);
        due.is("letters after town", moon.told(2), 0);
        due.is("feed after town", moon.feed('t'), 1);
    }

    private static void goodTexts() {
        due.good("t1;", 1, 0, 0);
        due.good("t8;s15;", 8, 0, 1 << 15);
        due.good("  t  8 ;  ", 8, 0, 0);
        due.good("t008;s 007;s015 ;", 8, 0, Due.set(7, 15));
        due.good("t1;s0;s1;", 1, 0, 3);
        due.good("t1;r0 0;", 1, 1, 0);
        due.good("t1;r99 1,0;", 1, 1, 0);
        due.good("t1;r 0 0 , 1 ;", 1, 1, 0);
        due.good("t2;r0 0,1,2,3;s3;r1 1;", 2, 2, 8);
        due.good("t2;r000 003,000;", 2, 1, 0);
        due.good("t1;r0 0;r0 0;r0 0;r0 0;r0 0;r0 0;r0 0;r0 0;r0 0;r0 0;", 1, 10, 0);
        due.good("t8;r1 0,1;" + " ".repeat(230), 8, 1, 0);
    }

    private static void faultsOfStanding() {
        due.bad("s0;", 1, 0);
        due.bad("  r0 0;", 1, 2);
        due.bad("x", 1, 0);
        due.bad(";", 1, 0);
        due.bad("5", 1, 0);
        due.bad("5555", 1, 0);
        due.bad("T1;", 1, 0);
        due.bad("t", 1, 1);
        due.bad("t  ", 1, 3);
        due.bad("t1", 1, 2);
        due.bad("t1  ", 1, 4);
        due.bad("t;", 1, 1);
        due.bad("t-1;", 1, 1);
        due.bad("t1 2;", 1, 3);
        due.bad("t1 9999;", 1, 3);
        due.bad("t1,", 1, 2);
        due.bad("t1;;", 1, 3);
        due.bad("t1;0", 1, 3);
        due.bad("t1;x", 1, 3);
        due.bad("t1;" + (char) 9, 1, 3);
        due.bad("t1;" + (char) 255, 1, 3);
        due.bad("t1;r", 1, 4);
        due.bad("t1;r;", 1, 4);
        due.bad("t1;rr", 1, 4);
        due.bad("t1;rt", 1, 4);
        due.bad("t1;r1;", 1, 5);
        due.bad("t1;r1,0;", 1, 5);
        due.bad("t1;r10;", 1, 6);
        due.bad("t1;r1 0", 1, 7);
        due.bad("t1;r1 0 1;", 1, 8);
        due.bad("t1;r1 0,;", 1, 8);
        due.bad("t1;r1 0,", 1, 8);
        due.bad("t1;r1 0,1", 1, 9);
        due.bad("t1;r1 0,1 1;", 1, 10);
        due.bad("t1;r1 0s", 1, 7);
        due.bad("t1;s", 1, 4);
        due.bad("t1;s;", 1, 4);
        due.bad("t1;s0", 1, 5);
        due.bad("t1;s0,1;", 1, 5);
        due.bad("t4;r0 0,1,2,3,4;", 1, 13);
        due.bad("t4;r0 0,1,2,3 ,x", 1, 14);
        due.bad("t4;r0 0,1,2,3,9999;", 1, 13);
    }

    private static void faultsOfNumbers() {
        due.bad("t0;", 2, 1);
        due.bad("t9;", 2, 1);
        due.bad("t9", 2, 1);
        due.bad("t 9;", 2, 2);
        due.bad("t000;", 2, 1);
        due.bad("t0001;", 2, 1);
        due.bad("t" + "1".repeat(239), 2, 1);
        due.bad("t" + "0".repeat(238) + "1", 2, 1);
        due.bad("t1;r100 0;", 2, 4);
        due.bad("t1;r0099 0;", 2, 4);
        due.bad("t1;r99 2;", 2, 7);
        due.bad("t8;r99 16;", 2, 7);
        due.bad("t8;r9 0000;", 2, 6);
        due.bad("t1;r0 0,2;", 2, 8);
        due.bad("t1;r0 0, 0001;", 2, 9);
        due.bad("t1;s2;", 2, 4);
        due.bad("t1;s 2;", 2, 5);
        due.bad("t8;s16;", 2, 4);
        due.bad("t1;s0000;", 2, 4);
        due.bad("t1;s1000", 2, 4);
        due.bad("t1;s4294967296;", 2, 4);
        due.bad("t1;s4294967297;", 2, 4);
        // The least of the faults at one letter: four figures of a SAYING that was told already.
        due.bad("t1;s0;s0000;", 2, 7);
        due.bad("t1;r0 0,0000;", 2, 8);
    }

    private static void faultsOfNumberOfClauses() {
        due.bad("t1;t1;", 3, 3);
        due.bad("t1; t", 3, 4);
        due.bad("t1;s0;t", 3, 6);
        due.bad("t1;r0 0;r0 0;r0 0;r0 0;r0 0;r0 0;r0 0;r0 0;r0 0;r0 0;r0 0;", 3, 53);
        due.bad("t1;r0 0;r0 0;r0 0;r0 0;r0 0;r0 0;r0 0;r0 0;r0 0;r0 0; r", 3, 54);
        // A fault ahead of the eleventh rule comes first.
        due.bad("t1;r0 0;r0 0;r0 0;r0 0;r0 0;r0 0;r0 0;r0 0;r0 0;r0 2;r0 0;", 2, 51);
    }

    private static void faultsOfTellingTwice() {
        due.bad("t1;r0 0,0;", 4, 8);
        due.bad("t1;r0 1, 001;", 4, 9);
        due.bad("t2;r0 0,1,1;", 4, 10);
        due.bad("t2;r0 0,1,2,1;", 4, 12);
        due.bad("t2;r0 0,1,2,0x", 4, 12);
        due.bad("t1;s0;s0;", 4, 7);
        due.bad("t1;s0;s1;s 01;", 4, 11);
        due.bad("t1;s0;s0", 4, 7);
    }

    private static void faultChangesNothing() {
        BarrelMoon moon = Due.townOf("t2;r5 2,0;s0;");
        moon.debate();
        moon.keep(1);
        moon.forbid(0, true);
        moon.ask(1, 2, true);
        moon.write(2, 1);
        moon.seed(99);
        String before = Due.look(moon);
        Due.feedAll(moon, "t2;r5 2,2;");
        due.is("town with a fault", moon.town(), -14);
        due.is("fault", moon.fault(), 8);
        due.is("letters are gone", moon.told(2), 0);
        due.holds("all else is as it was", Due.look(moon).equals(
                before.substring(0, before.lastIndexOf(' ')) + " 8"));
        due.is("can be undone still", moon.undo(), 0);
        due.is("not forbidden again", moon.told(5), 0);
        due.is("image is there still", moon.goBack(1), 1);
        due.is("seed of the image", moon.seed(5), 0);
    }

    private static void townBeginsAnew() {
        BarrelMoon moon = Due.townOf("t2;r5 2,0;s0;");
        moon.debate();
        moon.keep(0);
        moon.keep(1);
        moon.forbid(0, true);
        moon.ask(1, 2, true);
        moon.write(2, 1);
        moon.seed(99);
        moon.see(3, true);
        due.is("fault ahead", moon.fault(), BarrelMoon.NONE);
        Due.feedAll(moon, "t3;s5;r7 1;r8 0,1;");
        due.is("the next town", moon.town(), 2);
        int[] wants = {3, 2, 0, 1 << 5, 0, 0, 0, Due.set(0, 1, 5), 1, 0, 0, 0, 0};
        for (int what = 0; what < wants.length; what++) {
            due.is("anew told(" + what + ")", moon.told(what), wants[what]);
        }
        due.is("image 0 is gone", moon.goBack(0), BarrelMoon.NOT);
        due.is("image 1 is gone", moon.goBack(1), BarrelMoon.NOT);
        due.is("nothing to undo", moon.undo(), BarrelMoon.NOT);
        due.is("the seed stays", moon.seed(0), 99);
        Due.feedAll(moon, "t3;r7 1;r8 9;");
        due.is("a fault", moon.town(), -12);
        due.is("its letter", moon.fault(), 11);
        Due.feedAll(moon, "t1;");
        due.is("a good one", moon.town(), 0);
        due.is("no fault any more", moon.fault(), BarrelMoon.NONE);
    }

    private static void emptyText() {
        BarrelMoon moon = Due.townOf("t2;r5 2,0;s0;");
        moon.debate();
        moon.keep(0);
        moon.forbid(0, true);
        moon.ask(1, 2, true);
        moon.write(2, 1);
        moon.seed(3);
        due.is("town of nothing", moon.town(), 0);
        due.is("fault of nothing", moon.fault(), BarrelMoon.NONE);
        for (int what = 0; what <= 12; what++) {
            due.is("no town told(" + what + ")", moon.told(what), 0);
        }
        due.is("no debate", moon.debate(), BarrelMoon.NOT);
        due.is("no saying", moon.see(0, true), BarrelMoon.UNKNOWN);
        due.is("no rule", moon.rule(0, 0), BarrelMoon.UNKNOWN);
        due.is("no image", moon.goBack(0), BarrelMoon.NOT);
        due.is("the seed stays", moon.seed(0), 3);
        // Blanks may stand anywhere: blanks alone are an empty text, too.
        BarrelMoon blank = Due.townOf("t2;r5 2,0;s0;");
        Due.feedAll(blank, "   ");
        due.is("letters", blank.told(2), 3);
        due.is("town of blanks", blank.town(), 0);
        due.is("fault of blanks", blank.fault(), BarrelMoon.NONE);
        due.is("no town of blanks", blank.told(0), 0);
        due.is("nothing seen", blank.told(3), 0);
        due.is("letters", blank.told(2), 0);
    }

    /** Nothing of an earlier town comes back, whatever came in between. */
    private static void manyTowns() {
        String[] between = {"", "t9;", "t1;", "t8;s15;r1 2;x"};
        for (String text : between) {
            BarrelMoon moon = Due.townOf("t4;r5 2,0;s0;s7;");
            Due.feedAll(moon, "t3;r1 1;r2 2;s5;");
            moon.town();
            Due.feedAll(moon, text);
            moon.town();
            Due.feedAll(moon, "t2;r3 3,0,1;");
            due.is("a later town", moon.town(), 1);
            due.is("its things", moon.told(0), 2);
            due.is("its seen", moon.told(3), 0);
            due.is("its rule", moon.rule(0, 2), 3);
            due.is("no other rule", moon.rule(1, 2), BarrelMoon.UNKNOWN);
            due.is("none", moon.town(), 0);
            due.is("no things", moon.told(0), 0);
            due.is("no rules", moon.told(1), 0);
            due.is("nothing seen", moon.told(3), 0);
        }
    }

    private static void toldAndRule() {
        BarrelMoon moon = Due.townOf("t3;r12 1,0;r0 3;r99 5,0,2,4;s0;");
        due.is("told(-1)", moon.told(-1), BarrelMoon.OUTSIDE);
        due.is("told(13)", moon.told(13), BarrelMoon.OUTSIDE);
        due.is("follows", moon.told(7), Due.set(0, 1, 3));
        due.is("quarrels", moon.told(8), 1);
        due.is("held quarrels ahead", moon.told(9), 0);
        moon.see(2, true);
        moon.debate();
        due.is("held", moon.told(4), Due.set(0, 1, 2, 3));
        due.is("held quarrels", moon.told(9), 3);
        moon.see(2, false);
        moon.see(0, false);
        due.is("held quarrels still", moon.told(9), 3);
        due.is("seen does not", moon.told(8), 0);
        moon.forbid(1, true);
        int[][] wants = {{12, 1, 1, 0}, {0, 3, 0, 1}, {99, 5, Due.set(0, 2, 4), 0}};
        for (int r = 0; r < 3; r++) {
            for (int what = 0; what < 4; what++) {
                due.is("rule(" + r + ", " + what + ")", moon.rule(r, what), wants[r][what]);
            }
        }
        due.is("forbidden", moon.told(5), 2);
        due.is("rule(0, 4)", moon.rule(0, 4), BarrelMoon.OUTSIDE);
        due.is("rule(0, -1)", moon.rule(0, -1), BarrelMoon.OUTSIDE);
        due.is("rule(3, 0)", moon.rule(3, 0), BarrelMoon.UNKNOWN);
        due.is("rule(-1, 0)", moon.rule(-1, 0), BarrelMoon.UNKNOWN);
        due.is("rule(3, 4): unknown comes first", moon.rule(3, 4), BarrelMoon.UNKNOWN);
    }
}
