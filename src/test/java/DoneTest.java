/** Promises 7 to 12: what is seen and forbidden, debates, days by draws, undone. */
public final class DoneTest {
    private static final Due due = new Due("DoneTest");

    public static void main(String[] args) {
        seeing();
        forbidding();
        debating();
        dropping();
        drifting();
        driftRefused();
        undoing();
        undoOfMany();
        due.end();
    }

    private static void seeing() {
        BarrelMoon moon = Due.townOf("t2;s1;");
        due.is("see new", moon.see(0, true), 0);
        due.is("see again", moon.see(0, true), 1);
        due.is("its denial stays", moon.told(3), 3);
        due.is("not any more", moon.see(1, false), 1);
        due.is("not at all", moon.see(1, false), 0);
        due.is("seen", moon.told(3), 1);
        due.is("each can be undone", moon.told(12), 4);
        due.is("see(4)", moon.see(4, true), BarrelMoon.UNKNOWN);
        due.is("see(-1)", moon.see(-1, true), BarrelMoon.UNKNOWN);
        due.is("see(33)", moon.see(33, true), BarrelMoon.UNKNOWN);
        due.is("see(least)", moon.see(Integer.MIN_VALUE, false), BarrelMoon.UNKNOWN);
        due.is("refused: seen", moon.told(3), 1);
        due.is("refused: to undo", moon.told(12), 4);
        BarrelMoon eight = Due.townOf("t8;");
        due.is("see(15)", eight.see(15, true), 0);
        due.is("seen 15", eight.told(3), 1 << 15);
        due.is("see(16)", eight.see(16, true), BarrelMoon.UNKNOWN);
    }

    private static void forbidding() {
        BarrelMoon moon = Due.townOf("t2;r1 2,0;r1 1,2;s0;");
        due.is("all follows", moon.told(7), Due.set(0, 1, 2));
        due.is("forbid", moon.forbid(1, true), 0);
        due.is("what follows now", moon.told(7), Due.set(0, 2));
        due.is("forbid again", moon.forbid(1, true), 1);
        due.is("allow", moon.forbid(1, false), 1);
        due.is("allow again", moon.forbid(1, false), 0);
        due.is("all follows again", moon.told(7), Due.set(0, 1, 2));
        due.is("each can be undone", moon.told(12), 4);
        due.is("forbid(2)", moon.forbid(2, true), BarrelMoon.UNKNOWN);
        due.is("forbid(-1)", moon.forbid(-1, true), BarrelMoon.UNKNOWN);
        due.is("refused", moon.told(5), 0);
        due.is("refused: to undo", moon.told(12), 4);
    }

    private static void debating() {
        BarrelMoon moon = Due.townOf("t3;r1 2,0;r1 4,2,1;s0;");
        due.is("debate", moon.debate(), Due.set(0, 2));
        due.is("debates", moon.told(6), 1);
        moon.see(0, false);
        moon.see(1, true);
        due.is("from seen alone", moon.told(7), Due.set(1));
        due.is("debate from held and seen", moon.debate(), Due.set(0, 1, 2, 4));
        due.is("held", moon.told(4), Due.set(0, 1, 2, 4));
        due.is("debates", moon.told(6), 2);
        moon.forbid(0, true);
        moon.forbid(1, true);
        due.is("what is held stays", moon.debate(), Due.set(0, 1, 2, 4));
        due.is("debates", moon.told(6), 3);
        due.is("seen does not change", moon.told(3), Due.set(1));
    }

    private static void dropping() {
        BarrelMoon moon = Due.townOf("t2;r1 2,0;s0;");
        due.is("drop nothing", moon.drop(), 0);
        moon.debate();
        due.is("drop", moon.drop(), Due.set(0, 2));
        due.is("held", moon.told(4), 0);
        due.is("seen stays", moon.told(3), 1);
        due.is("debates stay", moon.told(6), 1);
        due.is("each can be undone", moon.told(12), 3);
    }

    /** The seeds and draws told in the open, by the words of the document. */
    private static void drifting() {
        for (int things = 1; things <= 8; things++) {
            for (int days = 1; days <= 60; days += days < 3 ? 1 : 19) {
                driftOnce(things, days, 1234567 * things + days);
            }
        }
        driftOnce(3, 60, 0);
        driftOnce(8, 60, Integer.MAX_VALUE);
    }

    private static void driftOnce(int things, int days, int seed) {
        BarrelMoon moon = Due.townOf("t" + things + ";r0 1,0;s0;");
        moon.forbid(0, things % 2 == 0);
        moon.seed(seed);
        long x = seed;
        int seen = 1;
        int held = 0;
        int debates = 0;
        for (int day = 0; day < days; day++) {
            x = (x * 1103515245L + 12345L) % 2147483648L;
            int s = (int) (x / 65536 % (2 * things));
            seen |= 1 << s;
            seen &= ~(1 << (s % 2 == 0 ? s + 1 : s - 1));
            x = (x * 1103515245L + 12345L) % 2147483648L;
            if (x / 65536 % 4 == 0) {
                held |= seen;
                if ((held & 1) != 0 && things % 2 != 0) {
                    held |= 2;
                }
                debates++;
            }
        }
        String name = "drift(" + days + ") of " + things + " things from " + seed;
        due.is(name, moon.drift(days), seen);
        due.is(name + ": seen", moon.told(3), seen);
        due.is(name + ": held", moon.told(4), held);
        due.is(name + ": debates", moon.told(6), debates);
        due.is(name + ": to undo", moon.told(12), 2);
        due.is(name + ": undone", moon.undo(), 1);
        due.is(name + ": seen again", moon.told(3), 1);
        due.is(name + ": debates again", moon.told(6), 0);
        due.is(name + ": the seed stays", moon.seed(0), x);
    }

    private static void driftRefused() {
        BarrelMoon moon = Due.townOf("t2;s0;");
        moon.seed(4);
        due.is("drift(0)", moon.drift(0), BarrelMoon.OUTSIDE);
        due.is("drift(-1)", moon.drift(-1), BarrelMoon.OUTSIDE);
        due.is("drift(61)", moon.drift(61), BarrelMoon.OUTSIDE);
        due.is("refused: seen", moon.told(3), 1);
        due.is("refused: to undo", moon.told(12), 0);
        due.is("refused: the seed", moon.seed(0), 4);
        BarrelMoon none = new BarrelMoon();
        none.seed(4);
        due.is("drift(1) of no town", none.drift(1), BarrelMoon.NOT);
        due.is("drift(61) of no town", none.drift(61), BarrelMoon.OUTSIDE);
        due.is("no town: the seed", none.seed(0), 4);
    }

    private static void undoing() {
        BarrelMoon moon = Due.townOf("t2;r1 2,0;s0;");
        due.is("nothing yet", moon.undo(), BarrelMoon.NOT);
        moon.see(3, true);
        moon.forbid(0, true);
        moon.debate();
        moon.drop();
        moon.forbid(0, false);
        moon.debate();
        moon.ask(1, 2, true);
        moon.write(2, 1);
        due.is("debate is undone", moon.undo(), 5);
        due.is("held", moon.told(4), 0);
        due.is("debates", moon.told(6), 1);
        due.is("forbid is undone", moon.undo(), 4);
        due.is("forbidden", moon.told(5), 1);
        due.is("drop is undone", moon.undo(), 3);
        due.is("held", moon.told(4), Due.set(0, 3));
        due.is("debate is undone", moon.undo(), 2);
        due.is("debates", moon.told(6), 0);
        due.is("forbid is undone", moon.undo(), 1);
        due.is("forbidden", moon.told(5), 0);
        due.is("see is undone", moon.undo(), 0);
        due.is("seen", moon.told(3), 1);
        due.is("none more", moon.undo(), BarrelMoon.NOT);
        due.is("what was asked stays", moon.told(10), 1);
        due.is("the book stays", moon.told(11), 1);
    }

    private static void undoOfMany() {
        BarrelMoon moon = Due.townOf("t8;");
        for (int s = 0; s < 16; s++) {
            moon.see(s, true);
            due.is("to undo", moon.told(12), s + 1);
        }
        for (int s = 0; s < 8; s++) {
            moon.see(s, false);
            due.is("to undo, 20 at most", moon.told(12), Math.min(20, 17 + s));
        }
        for (int k = 19; k >= 0; k--) {
            due.is("undo", moon.undo(), k);
        }
        due.is("the oldest are lost", moon.undo(), BarrelMoon.NOT);
        due.is("seen as ahead of the twentieth", moon.told(3), 15);
        due.is("to undo again", moon.see(9, true), 0);
        due.is("undo", moon.undo(), 0);
        due.is("seen", moon.told(3), 15);
    }
}
