/** Promises 22 to 27: what was asked, what is believed, the book. */
public final class AskedTest {
    private static final Due due = new Due("AskedTest");

    public static void main(String[] args) {
        asking();
        believing();
        askingNext();
        writing();
        tearing();
        judging();
        due.end();
    }

    private static void asking() {
        BarrelMoon moon = Due.townOf("t2;r1 2,0;");
        due.is("ask of a set that there is not", moon.ask(16, 0, true), BarrelMoon.UNKNOWN);
        due.is("ask of a set below 0", moon.ask(-1, 0, true), BarrelMoon.UNKNOWN);
        due.is("ask a saying that there is not", moon.ask(0, 4, true), BarrelMoon.UNKNOWN);
        due.is("ask a saying below 0", moon.ask(0, -1, true), BarrelMoon.UNKNOWN);
        due.is("refused", moon.told(10), 0);
        for (int i = 1; i <= 6; i++) {
            due.is("ask " + i, moon.ask(15, 3, true), i);
        }
        due.is("ask 7", moon.ask(0, 0, true), BarrelMoon.FULL);
        due.is("unknown comes first", moon.ask(16, 0, true), BarrelMoon.UNKNOWN);
        due.is("unknown comes first", moon.ask(0, 4, true), BarrelMoon.UNKNOWN);
        due.is("asked", moon.told(10), 6);
        due.is("it can't be undone", moon.told(12), 0);
    }

    private static void believing() {
        BarrelMoon moon = Due.townOf("t3;r1 2,0;r1 4,2;r1 4,0;");
        believed(moon, 8, 0, 0);
        moon.ask(1, 4, true);
        // By 2, or by 0 and 1: sets 3, 4, 5, 6, 7.
        believed(moon, 5, 3, 0);
        moon.ask(1, 2, true);
        believed(moon, 3, 3, 1);
        moon.ask(4, 4, false);
        believed(moon, 1, 5, 5);
        moon.forbid(0, true);
        moon.forbid(2, true);
        believed(moon, 1, 5, 5);
        moon.see(0, true);
        moon.debate();
        believed(moon, 1, 5, 5);
        moon.ask(4, 4, true);
        believed(moon, 0, BarrelMoon.NONE, 0);
        due.is("believed(3)", moon.believed(3), BarrelMoon.OUTSIDE);
        due.is("believed(-1)", moon.believed(-1), BarrelMoon.OUTSIDE);
        BarrelMoon of = Due.townOf("t2;");
        of.ask(1, 0, true);
        believed(of, 1, 0, 0);
        of.ask(1, 0, false);
        believed(of, 0, BarrelMoon.NONE, 0);
        BarrelMoon ten = Due.townOf("t1;r0 0;r0 0;r0 0;r0 0;r0 0;r0 0;r0 0;r0 0;r0 0;r0 0;");
        believed(ten, 1024, 0, 0);
        ten.ask(0, 0, true);
        believed(ten, 1023, 1, 0);
        ten.ask(0, 0, false);
        believed(ten, 0, BarrelMoon.NONE, 0);
    }

    private static void believed(BarrelMoon moon, int count, int least, int sure) {
        due.is("believed: how many", moon.believed(0), count);
        due.is("believed: the least", moon.believed(1), least);
        due.is("believed: sure", moon.believed(2), sure);
    }

    private static void askingNext() {
        BarrelMoon moon = Due.townOf("t3;r1 2,0;r1 4,2;r1 5;s0;");
        // From 0: 2 by 4 of 8 sets, 4 by 2 of 8, 5 by 4 of 8.
        due.is("the least of like ones", moon.askNext(), 2);
        moon.forbid(0, true);
        moon.forbid(2, true);
        due.is("forbidden ones count, too", moon.askNext(), 2);
        moon.ask(1, 2, true);
        due.is("4 parts them as 5 does", moon.askNext(), 4);
        moon.ask(1, 4, false);
        due.is("5 is left", moon.askNext(), 5);
        moon.ask(0, 5, true);
        due.is("none parts them", moon.askNext(), BarrelMoon.NONE);
        due.is("one is left", moon.believed(0), 1);
        moon.ask(0, 5, false);
        due.is("none is left", moon.askNext(), BarrelMoon.NONE);
        BarrelMoon unseen = Due.townOf("t3;r1 2,0;r1 4,3;");
        due.is("from nothing seen none parts them", unseen.askNext(), BarrelMoon.NONE);
        unseen.see(3, true);
        due.is("from 3", unseen.askNext(), 4);
        unseen.see(4, true);
        due.is("what is seen parts nothing", unseen.askNext(), BarrelMoon.NONE);
        BarrelMoon only = Due.townOf("t8;r1 15;");
        due.is("the last saying, by the greatest set", only.askNext(), 15);
        only.see(15, true);
        due.is("16 sayings, none parts them", only.askNext(), BarrelMoon.NONE);
        BarrelMoon best = Due.townOf("t3;r1 0;r1 0;r1 2,0;r1 4;");
        // 0 by 12 of 16, 2 by 6 of 16, 4 by 8 of 16.
        due.is("the best comes later", best.askNext(), 4);
    }

    private static void writing() {
        BarrelMoon moon = Due.townOf("t2;r1 2,0;");
        due.is("write(4, 0)", moon.write(4, 0), BarrelMoon.UNKNOWN);
        due.is("write(-1, 0)", moon.write(-1, 0), BarrelMoon.UNKNOWN);
        due.is("write(4, 2): unknown comes first", moon.write(4, 2), BarrelMoon.UNKNOWN);
        due.is("write(0, 2)", moon.write(0, 2), BarrelMoon.OUTSIDE);
        due.is("write(0, -1)", moon.write(0, -1), BarrelMoon.OUTSIDE);
        due.is("refused", moon.told(11), 0);
        for (int i = 1; i <= 15; i++) {
            due.is("write " + i, moon.write(i % 4, i % 2), i);
        }
        due.is("write 16", moon.write(0, 0), BarrelMoon.FULL);
        due.is("outside ahead of full", moon.write(0, 2), BarrelMoon.OUTSIDE);
        due.is("unknown ahead of full", moon.write(4, 0), BarrelMoon.UNKNOWN);
        due.is("entries", moon.told(11), 15);
        due.is("it can't be undone", moon.told(12), 0);
    }

    private static void tearing() {
        BarrelMoon moon = Due.townOf("t2;r1 2,0;s0;");
        due.is("tear nothing", moon.tear(), 0);
        moon.ask(1, 2, true);
        moon.ask(1, 2, false);
        moon.write(0, 0);
        due.is("tear", moon.tear(), 3);
        due.is("asked", moon.told(10), 0);
        due.is("book", moon.told(11), 0);
        due.is("believed again", moon.believed(0), 2);
        due.is("judge", moon.judge(), BarrelMoon.NONE);
        due.is("ask again", moon.ask(1, 2, false), 1);
        due.is("write again", moon.write(2, 0), 1);
        due.is("believed", moon.believed(1), 0);
        due.is("judge", moon.judge(), 0);
    }

    private static void judging() {
        BarrelMoon moon = Due.townOf("t2;r1 2,0;s0;");
        moon.write(0, 1);
        moon.write(2, 1);
        moon.write(3, 0);
        due.is("all as told", moon.judge(), BarrelMoon.NONE);
        moon.forbid(0, true);
        due.is("2 does not follow", moon.judge(), 1);
        moon.see(0, false);
        due.is("0 does not, either", moon.judge(), 0);
        moon.see(0, true);
        moon.forbid(0, false);
        moon.see(3, true);
        due.is("3 follows", moon.judge(), 2);
        moon.debate();
        moon.see(3, false);
        moon.see(0, false);
        due.is("what is held does not count", moon.judge(), 0);
        moon.see(0, true);
        due.is("as it was", moon.judge(), BarrelMoon.NONE);
    }
}
