/** Promises 28 to 30: the seed, images. */
public final class ImagesTest {
    private static final Due due = new Due("ImagesTest");

    public static void main(String[] args) {
        seeding();
        keeping();
        goingBack();
        due.end();
    }

    private static void seeding() {
        BarrelMoon moon = new BarrelMoon();
        due.is("0 at first", moon.seed(5), 0);
        due.is("seed(-1)", moon.seed(-1), BarrelMoon.OUTSIDE);
        due.is("seed(least)", moon.seed(Integer.MIN_VALUE), BarrelMoon.OUTSIDE);
        due.is("seed(most)", moon.seed(Integer.MAX_VALUE), 5);
        due.is("seed(0)", moon.seed(0), Integer.MAX_VALUE);
        due.is("seed(1)", moon.seed(1), 0);
        due.is("it can't be undone", moon.told(12), 0);
        BarrelMoon drawn = Due.townOf("t1;");
        drawn.drift(1);
        // 12345, then 12345 * 1103515245 + 12345, left over by 2147483648.
        due.is("two draws a day", drawn.seed(0), (12345L * 1103515245L + 12345L) % 2147483648L);
    }

    private static void keeping() {
        BarrelMoon moon = Due.townOf("t2;r1 2,0;s0;");
        moon.see(3, true);
        due.is("keep(2)", moon.keep(2), BarrelMoon.UNKNOWN);
        due.is("keep(-1)", moon.keep(-1), BarrelMoon.UNKNOWN);
        due.is("refused: to undo", moon.told(12), 1);
        due.is("goBack(0)", moon.goBack(0), BarrelMoon.NOT);
        due.is("goBack(1)", moon.goBack(1), BarrelMoon.NOT);
        due.is("goBack(2)", moon.goBack(2), BarrelMoon.UNKNOWN);
        due.is("goBack(-1)", moon.goBack(-1), BarrelMoon.UNKNOWN);
        due.is("refused: to undo", moon.told(12), 1);
        due.is("keep(1)", moon.keep(1), 1);
        due.is("nothing to undo", moon.told(12), 0);
        due.is("undo", moon.undo(), BarrelMoon.NOT);
        due.is("image 0 was not kept", moon.goBack(0), BarrelMoon.NOT);
        due.is("image 1 was", moon.goBack(1), 1);
    }

    private static void goingBack() {
        BarrelMoon moon = Due.townOf("t2;r1 2,0;s0;");
        moon.seed(77);
        moon.keep(0);
        moon.debate();
        moon.forbid(0, true);
        moon.see(1, true);
        moon.seed(88);
        moon.keep(1);
        moon.drop();
        moon.drift(9);
        moon.ask(1, 2, true);
        moon.write(2, 1);
        int[] first = {2, 1, 0, 1, 0, 0, 0, 5, 0, 0, 1, 1, 0};
        int[] second = {2, 1, 0, 3, 5, 1, 1, 3, 1, 0, 1, 1, 0};
        due.is("goBack(1)", moon.goBack(1), 1);
        compare("image 1", moon, second);
        due.is("its seed", moon.seed(3), 88);
        due.is("goBack(0)", moon.goBack(0), 1);
        compare("image 0", moon, first);
        due.is("its seed", moon.seed(3), 77);
        moon.see(0, false);
        due.is("to undo", moon.told(12), 1);
        due.is("goBack(1) again", moon.goBack(1), 1);
        compare("image 1 again", moon, second);
        due.is("its seed again", moon.seed(3), 88);
        due.is("nothing to undo", moon.undo(), BarrelMoon.NOT);
        moon.drop();
        due.is("keep over it", moon.keep(1), 1);
        moon.see(1, false);
        due.is("goBack to the later", moon.goBack(1), 1);
        due.is("held", moon.told(4), 0);
        due.is("seed", moon.seed(0), 3);
        due.is("the town stays", moon.told(1), 1);
    }

    private static void compare(String name, BarrelMoon moon, int[] wants) {
        for (int what = 0; what < wants.length; what++) {
            due.is(name + " told(" + what + ")", moon.told(what), wants[what]);
        }
    }
}
