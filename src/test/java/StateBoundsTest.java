/**
 * Terms 2 and 3 and promises 3, 5 to 12, 28 to 30: each sentence on what is so that names a bound, at it and
 * on both sides of it. No object has more than 512 calls.
 */
public final class StateBoundsTest {
    private static final Due due = new Due("StateBoundsTest");
    private static final int MOST = Integer.MAX_VALUE;
    /** From this seed 180 days have 72 DEBATES: as many for four calls as there can be. */
    private static final int BUSY_SEED = 189176;
    private static final int BUSY_ROUNDS = 125;

    public static void main(String[] args) {
        noneAtFirst();
        seenOfAllSayings();
        overAndOver();
        quarrels();
        heldAndDropped();
        whatIsForbidden();
        whatIsTold();
        numbersFromZero();
        townLeavesNothing();
        days();
        draws();
        debatesUpToNineThousand();
        debatesAboveNineThousand();
        refusedAboveNineThousand();
        fewerDebatesAgain();
        twentyToUndo();
        theOldestAreLost();
        eachKindIsUndone();
        othersAreNotUndone();
        refusedIsNotUndone();
        twoImages();
        imagesAndUndo();
        seeds();
        due.end();
    }

    private static String now(BarrelMoon moon) {
        return moon.told(3) + " " + moon.told(4) + " " + moon.told(5) + " " + moon.told(6);
    }

    // ---- what is so

    private static void noneAtFirst() {
        due.sentence("HELD is a SET of SAYINGS: what a DEBATE concluded (none at first).");
        BarrelMoon[] moons = {new BarrelMoon(), Due.townOf("t2;r1 2,0;s0;")};
        for (BarrelMoon moon : moons) {
            due.is("held", moon.told(4), 0);
            due.is("quarrels in held", moon.told(9), 0);
        }
        due.sentence("FORBIDDEN are RULES (a SET; none at first) that nobody goes by.");
        for (BarrelMoon moon : moons) {
            due.is("forbidden", moon.told(5), 0);
            due.is("debates", moon.told(6), 0);
        }
        due.is("rule(0, 3)", moons[1].rule(0, 3), 0);
        due.sentence("THE SEED (0 at first:");
        for (BarrelMoon moon : moons) {
            due.is("the seed", moon.seed(0), 0);
        }
        due.sentence("No TOWN.");
        due.is("things", moons[0].told(0), 0);
        due.is("seen", moons[0].told(3), 0);
    }

    private static void seenOfAllSayings() {
        BarrelMoon moon = Due.townOf("t8;");
        int seen = 0;
        due.sentence("A SAYING is SEEN (is), or not any more: 1 it was, 0 not. UNKNOWN.");
        for (int s = 0; s < 16; s++) {
            due.is("see(" + s + ")", moon.see(s, true), 0);
            seen |= 1 << s;
            due.is("seen", moon.told(3), seen);
            due.is("see(" + s + ") again", moon.see(s, true), 1);
        }
        due.sentence("SEEN is a SET of SAYINGS (a SAYING and its DENIAL, too).");
        due.is("all are seen", moon.told(3), 65535);
        due.is("see(16)", moon.see(16, true), BarrelMoon.UNKNOWN);
        for (int s = 15; s >= 0; s--) {
            due.is("see(" + s + ") not any more", moon.see(s, false), 1);
            seen &= ~(1 << s);
            due.is("seen", moon.told(3), seen);
            due.is("see(" + s + ") not, again", moon.see(s, false), 0);
        }
    }

    /** Ten rules in a chain, told from the first to the last and from the last to the first. */
    private static void overAndOver() {
        due.sentence("what RULES that are not FORBIDDEN conclude from what FOLLOWS, over and over.");
        String[] chain = {"r1 2,0;", "r1 4,2;", "r1 6,4;", "r1 8,6;", "r1 10,8;",
            "r1 12,10;", "r1 14,12;", "r1 1,14;", "r1 3,1;", "r1 5,3;"};
        StringBuilder forth = new StringBuilder("t8;s0;");
        StringBuilder back = new StringBuilder("t8;s0;");
        for (int i = 0; i < 10; i++) {
            forth.append(chain[i]);
            back.append(chain[9 - i]);
        }
        int all = Due.set(0, 1, 2, 3, 4, 5, 6, 8, 10, 12, 14);
        for (String text : new String[] {forth.toString(), back.toString()}) {
            BarrelMoon moon = Due.townOf(text);
            due.is("follows from seen", moon.told(7), all);
            due.is("follows(1)", moon.follows(1), all);
            due.is("debate", moon.debate(), all);
            due.is("proof of the last", moon.proof(5, 0), 10);
            due.is("proof of the last, the set", moon.proof(5, 1), 1023);
            due.is("each is the step", moon.step(5), 1023);
            due.is("barred by the first rule told", moon.barred(5), 1);
        }
        BarrelMoon cut = Due.townOf(back.toString());
        cut.forbid(0, true);
        due.is("all but the last", cut.told(7), all & ~(1 << 5));
        cut.forbid(9, true);
        due.is("nothing", cut.told(7), 1);
    }

    private static void quarrels() {
        due.sentence("QUARRELS: THINGS (a SET) of which both SAYINGS are in a SET.");
        BarrelMoon moon = Due.townOf("t8;");
        int quarrels = 0;
        for (int thing = 0; thing < 8; thing++) {
            moon.see(2 * thing, true);
            due.is("one of them", moon.told(8), quarrels);
            moon.see(2 * thing + 1, true);
            quarrels |= 1 << thing;
            due.is("both of them", moon.told(8), quarrels);
            due.is("held not yet", moon.told(9), 0);
        }
        // Sayings side by side that are of two things do not quarrel.
        BarrelMoon beside = Due.townOf("t8;s1;s2;s5;s6;s9;s10;s13;s14;");
        due.is("side by side", beside.told(8), 0);
        moon.debate();
        due.is("held", moon.told(9), 255);
    }

    private static void heldAndDropped() {
        due.sentence("DROPPED: what was HELD. NOT: no TOWN.");
        BarrelMoon moon = Due.townOf("t8;");
        due.is("drop none", moon.drop(), 0);
        for (int s = 0; s < 16; s++) {
            moon.see(s, true);
        }
        due.is("debate of all", moon.debate(), 65535);
        due.is("drop all", moon.drop(), 65535);
        due.is("held", moon.told(4), 0);
        due.is("drop none", moon.drop(), 0);
        due.sentence("A DEBATE: HELD becomes what FOLLOWS from SEEN and HELD together; DEBATES are counted.");
        due.is("debates", moon.told(6), 1);
        for (int s = 1; s < 16; s++) {
            moon.see(s, false);
        }
        due.is("debate of one", moon.debate(), 1);
        moon.see(0, false);
        moon.see(15, true);
        due.is("what is held counts", moon.debate(), 1 | 1 << 15);
        due.is("debates", moon.told(6), 3);
        moon.see(15, false);
        moon.drop();
        due.is("debate of none", moon.debate(), 0);
        due.is("debates", moon.told(6), 4);
    }

    private static void whatIsForbidden() {
        due.sentence("A RULE is FORBIDDEN (is), or not: 1 it was, 0 not. UNKNOWN.");
        BarrelMoon moon = Due.townOf("t8;" + "r1 15;".repeat(10));
        for (int r = 0; r < 10; r++) {
            due.is("forbid(" + r + ")", moon.forbid(r, true), 0);
            due.is("forbidden", moon.told(5), (2 << r) - 1);
            due.is("rule(" + r + ", 3)", moon.rule(r, 3), 1);
            due.is("follows", moon.told(7), r < 9 ? 1 << 15 : 0);
        }
        due.is("forbid(10)", moon.forbid(10, true), BarrelMoon.UNKNOWN);
        for (int r = 9; r >= 0; r--) {
            due.is("forbid(" + r + ") not any more", moon.forbid(r, false), 1);
            due.is("forbidden", moon.told(5), (1 << r) - 1);
        }
        due.is("forbid(10, false)", moon.forbid(10, false), BarrelMoon.UNKNOWN);
        due.sentence("what = 0 C, 1 Q, 2 its SAYINGS S (a SET), 3 1 it is FORBIDDEN, 0 not.");
        due.is("rule(9, -1)", moon.rule(9, -1), BarrelMoon.OUTSIDE);
        due.is("rule(9, 0)", moon.rule(9, 0), 1);
        due.is("rule(9, 1)", moon.rule(9, 1), 15);
        due.is("rule(9, 2)", moon.rule(9, 2), 0);
        due.is("rule(9, 3)", moon.rule(9, 3), 0);
        due.is("rule(9, 4)", moon.rule(9, 4), BarrelMoon.OUTSIDE);
    }

    /** All of them at once, as great as they can be. */
    private static void whatIsTold() {
        due.sentence("0 N, 1 RULES, 2 letters of THE TEXT, 3 SEEN, 4 HELD, 5 FORBIDDEN (SETS), 6 DEBATES,"
                + " 7 what FOLLOWS from SEEN, 8 QUARRELS in that, 9 QUARRELS in HELD, 10 what was ASKED,"
                + " 11 entries of THE BOOK, 12 how many can be undone. OUTSIDE.");
        BarrelMoon moon = Due.townOf("t8;" + "r1 15;".repeat(10));
        for (int k = 0; k < 16; k++) {
            moon.see(k, true);
        }
        for (int r = 0; r < 10; r++) {
            moon.forbid(r, true);
        }
        for (int k = 0; k < 6; k++) {
            moon.ask(65535, 15, true);
        }
        for (int k = 0; k < 15; k++) {
            moon.write(15, 1);
        }
        for (int k = 0; k < 240; k++) {
            moon.feed(' ');
        }
        moon.debate();
        moon.debate();
        int[] wants = {8, 10, 240, 65535, 65535, 1023, 2, 65535, 255, 255, 6, 15, 20};
        for (int what = 0; what <= 12; what++) {
            due.is("told(" + what + ")", moon.told(what), wants[what]);
        }
        due.is("told(-1)", moon.told(-1), BarrelMoon.OUTSIDE);
        due.is("told(13)", moon.told(13), BarrelMoon.OUTSIDE);
        // What FOLLOWS from SEEN is not what is HELD, and neither are their QUARRELS.
        BarrelMoon apart = Due.townOf("t2;r1 1,0;s0;");
        apart.debate();
        apart.see(0, false);
        apart.see(2, true);
        due.is("follows", apart.told(7), Due.set(2));
        due.is("quarrels in that", apart.told(8), 0);
        due.is("held", apart.told(4), Due.set(0, 1));
        due.is("quarrels in held", apart.told(9), 1);
        apart.drop();
        apart.see(3, true);
        due.is("quarrels in what follows", apart.told(8), 2);
        due.is("quarrels in held", apart.told(9), 0);
    }

    private static void numbersFromZero() {
        due.sentence("What has a number has it from 0 on, as it comes.");
        BarrelMoon moon = Due.townOf("t8;r10 0;s3;r11 1;r12 2;s4;r13 3;");
        for (int r = 0; r < 4; r++) {
            due.is("the cost of rule " + r, moon.rule(r, 0), 10 + r);
            due.is("what rule " + r + " concludes", moon.rule(r, 1), r);
        }
        due.sentence("A SET is a whole number, bit k for k.");
        due.is("seen", moon.told(3), 8 + 16);
        due.is("follows", moon.told(7), 1 + 2 + 4 + 8 + 16);
        due.sentence("A SAYING is 2 times a THING: it is so; or 1 more: it is not so");
        BarrelMoon last = Due.townOf("t8;s14;s15;s0;s3;");
        due.is("thing 7 is and is not so", last.told(8), 128);
    }

    private static void townLeavesNothing() {
        due.sentence("(nothing HELD, FORBIDDEN, no DEBATES; nothing ASKED, no BOOK; IMAGES, what could be undone are gone;"
                + " THE SEED stays)");
        // The next town is the same, another, or none.
        for (String text : new String[] {"t2;r5 2,0;s0;", "t8;r1 3;r2 4;s9;", ""}) {
            BarrelMoon moon = Due.townOf("t2;r5 2,0;s0;");
            moon.forbid(0, true);
            moon.debate();
            moon.keep(0);
            moon.keep(1);
            moon.see(3, true);
            moon.ask(1, 0, false);
            moon.write(0, 0);
            moon.seed(MOST);
            Due.feedAll(moon, text);
            moon.town();
            due.is("held", moon.told(4), 0);
            due.is("forbidden", moon.told(5), 0);
            due.is("debates", moon.told(6), 0);
            due.is("asked", moon.told(10), 0);
            due.is("the book", moon.told(11), 0);
            due.is("believed", moon.believed(0), 1 << moon.told(1));
            due.is("nothing is wrong", moon.judge(), BarrelMoon.NONE);
            due.is("nothing to undo", moon.told(12), 0);
            due.is("undo", moon.undo(), BarrelMoon.NOT);
            due.is("image 0", moon.goBack(0), BarrelMoon.NOT);
            due.is("image 1", moon.goBack(1), BarrelMoon.NOT);
            due.is("the seed stays", moon.seed(0), MOST);
            due.is("seen", moon.told(3), text.isEmpty() ? 0 : text.startsWith("t2") ? 1 : 1 << 9);
        }
    }

    // ---- by draws

    private static void days() {
        due.sentence("n days (1 .. 60) BY DRAWS: SEEN.");
        for (int n = 1; n <= 60; n++) {
            BarrelMoon once = Due.townOf("t8;r1 2,0;r1 5,4,2;s7;");
            BarrelMoon daily = Due.townOf("t8;r1 2,0;r1 5,4,2;s7;");
            once.seed(n);
            daily.seed(n);
            int seen = 0;
            for (int day = 0; day < n; day++) {
                seen = daily.drift(1);
            }
            due.is("drift(" + n + ")", once.drift(n), seen);
            due.holds(n + " days at once are as " + n + " days by one", now(once).equals(now(daily)));
            due.is("seen", once.told(3), seen);
            due.is("it is undone at once", once.undo(), 0);
            due.is("the seed is as far", once.seed(0), daily.seed(0));
        }
        BarrelMoon moon = Due.townOf("t8;s7;");
        due.is("drift(0)", moon.drift(0), BarrelMoon.OUTSIDE);
        due.is("drift(61)", moon.drift(61), BarrelMoon.OUTSIDE);
        due.is("no draw by it", moon.seed(0), 0);
    }

    /** Days that were reckoned by hand: from a seed, of so many things; the saying, whether a debate, the seed behind it. */
    private static void draws() {
        due.sentence("(0 at first: each DRAW it becomes it times 1103515245 and 12345, left over by 2 to the 31;"
                + " the DRAW of n is it / 65536, left over by n)");
        // Seed 12345, 12345 / 65536 = 0; then 1406932606, / 65536 = 21468.
        day(0, 8, 0, true, 1406932606);
        // 9988, 22117
        day(1406932606, 8, 4, false, 1449466924);
        // 16838, 5758
        day(1, 8, 6, false, 377401575);
        // 15929, 4409
        day(MOST, 8, 9, false, 288979989);
        day(MOST, 1, 1, false, 288979989);
        day(MOST, 2, 1, false, 288979989);
        day(MOST, 3, 5, false, 288979989);
        day(MOST, 5, 9, false, 288979989);
        day(MOST, 7, 11, false, 288979989);
        // 31859, 20118
        day(MOST - 1, 8, 3, false, 1318511020);
        // 16384, 5084
        day(1073741824, 8, 0, true, 333190782);
        day(1073741824, 3, 4, true, 333190782);
        // 20077, 28229
        day(65536, 8, 13, false, 1850021502);
    }

    private static void day(int seed, int things, int saying, boolean debate, int seedBehind) {
        due.sentence("in each a DRAW of 2 times N: that SAYING is SEEN, its DENIAL not; a DRAW of 4: on 0 a DEBATE.");
        int denial = saying % 2 == 0 ? saying + 1 : saying - 1;
        int all = (1 << 2 * things) - 1;
        // From nothing, from all, from the saying alone and from its denial alone.
        for (int seen : new int[] {0, all, 1 << saying, 1 << denial}) {
            BarrelMoon moon = Due.townOf("t" + things + ";");
            for (int s = 0; s < 2 * things; s++) {
                moon.see(s, (seen >> s & 1) != 0);
            }
            int want = (seen | 1 << saying) & ~(1 << denial);
            moon.seed(seed);
            String name = "a day of " + things + " things from seed " + seed + ", seen " + seen;
            due.is(name, moon.drift(1), want);
            due.is(name + ": held", moon.told(4), debate ? want : 0);
            due.is(name + ": debates", moon.told(6), debate ? 1 : 0);
            due.is(name + ": the seed", moon.seed(0), seedBehind);
        }
    }

    // ---- 9000 debates

    /** An object of 504 calls with 9000 DEBATES: 8 calls are left. */
    private static BarrelMoon withNineThousand() {
        BarrelMoon moon = Due.townOf("t1;");
        for (int round = 0; round < BUSY_ROUNDS; round++) {
            moon.seed(BUSY_SEED);
            for (int i = 0; i < 3; i++) {
                due.holds("drift(60) up to 9000", moon.drift(60) > 0);
            }
        }
        return moon;
    }

    private static void debatesUpToNineThousand() {
        due.sentence("A DEBATE: HELD. NOT: no TOWN; FULL: DEBATES are above 9000.");
        BarrelMoon moon = withNineThousand();
        due.is("debates", moon.told(6), 9000);
        due.is("debate at 9000", moon.debate(), 3);
        due.is("debates", moon.told(6), 9001);
        due.is("debate at 9001", moon.debate(), BarrelMoon.FULL);
        due.is("debates", moon.told(6), 9001);
        due.sentence("OUTSIDE, NOT: no TOWN; FULL: DEBATES are above 9000.");
        due.is("drift(60) at 9001", moon.drift(60), BarrelMoon.FULL);
        due.is("drift(61) at 9001", moon.drift(61), BarrelMoon.OUTSIDE);
        due.is("drift(0) at 9001", moon.drift(0), BarrelMoon.OUTSIDE);
    }

    private static void debatesAboveNineThousand() {
        due.sentence("OUTSIDE, NOT: no TOWN; FULL: DEBATES are above 9000.");
        BarrelMoon moon = withNineThousand();
        moon.seed(BUSY_SEED);
        due.holds("drift(60) at 9000", moon.drift(60) > 0);
        int debates = moon.told(6);
        due.holds("a drift goes on above 9001: " + debates, debates > 9001);
        due.is("debate above", moon.debate(), BarrelMoon.FULL);
        due.is("drift(1) above", moon.drift(1), BarrelMoon.FULL);
        due.is("undo goes on", moon.undo(), 19);
        due.is("debates", moon.told(6), 9000);
        due.is("debate again", moon.debate(), 3);
    }

    private static void refusedAboveNineThousand() {
        due.sentence("What is refused changes nothing.");
        BarrelMoon moon = withNineThousand();
        moon.debate();
        moon.seed(4321);
        due.is("drop goes on", moon.drop(), 3);
        due.is("debate", moon.debate(), BarrelMoon.FULL);
        due.is("drift(1)", moon.drift(1), BarrelMoon.FULL);
        due.is("held", moon.told(4), 0);
        due.is("the seed", moon.seed(0), 4321);
        due.is("to undo", moon.undo(), 19);
        BarrelMoon other = withNineThousand();
        other.debate();
        int seen = other.told(3);
        due.is("drift(60)", other.drift(60), BarrelMoon.FULL);
        due.is("seen", other.told(3), seen);
        due.is("held", other.told(4), 3);
        due.is("see goes on", other.see(0, true), seen & 1);
        due.is("undo see", other.undo(), 19);
        due.is("undo the last debate", other.undo(), 18);
    }

    private static void fewerDebatesAgain() {
        due.sentence("FULL: DEBATES are above 9000.");
        BarrelMoon undone = withNineThousand();
        undone.debate();
        due.is("debate", undone.debate(), BarrelMoon.FULL);
        undone.undo();
        due.is("debate after undo", undone.debate(), 3);
        due.is("debates", undone.told(6), 9001);
        BarrelMoon anew = withNineThousand();
        anew.debate();
        Due.feedAll(anew, "t1;");
        due.is("town", anew.town(), 0);
        due.is("debates", anew.told(6), 0);
        due.is("debate in a new town", anew.debate(), 0);
    }

    // ---- undone

    private static void twentyToUndo() {
        due.sentence("(20 at most are kept, the oldest are lost)");
        for (int changes = 0; changes <= 24; changes++) {
            BarrelMoon moon = Due.townOf("t8;");
            String[] states = new String[changes + 1];
            states[0] = now(moon);
            for (int i = 1; i <= changes; i++) {
                due.is("change " + i, moon.see(i % 16, true), i > 16 ? 1 : 0);
                states[i] = now(moon);
            }
            int kept = Math.min(20, changes);
            due.sentence("The latest is undone: how many more can be. NOT: none.");
            due.is(changes + " changes: to undo", moon.told(12), kept);
            for (int i = 1; i <= kept; i++) {
                due.is(changes + " changes: undo " + i, moon.undo(), kept - i);
                due.holds("as ahead of change " + (changes - i + 1), now(moon).equals(states[changes - i]));
            }
            due.is(changes + " changes: no more", moon.undo(), BarrelMoon.NOT);
            due.holds("nothing by that", now(moon).equals(states[changes - kept]));
        }
    }

    /** The 21st change is one of each kind in turn, and 20 of each kind are kept behind one other change. */
    private static void theOldestAreLost() {
        due.sentence("(20 at most are kept, the oldest are lost)");
        for (int kind = 0; kind < 5; kind++) {
            BarrelMoon moon = Due.townOf("t4;r1 2,0;s0;");
            moon.see(7, true);
            String behindFirst = now(moon);
            for (int i = 0; i < 20; i++) {
                change(moon, kind, i);
            }
            due.is("to undo", moon.told(12), 20);
            for (int i = 19; i >= 0; i--) {
                due.is("undo", moon.undo(), i);
            }
            due.holds("the first change is not undone", now(moon).equals(behindFirst));
            due.is("it is lost", moon.undo(), BarrelMoon.NOT);
        }
    }

    private static int change(BarrelMoon moon, int kind, int i) {
        return switch (kind) {
            case 0 -> moon.see(i % 8, i % 3 != 0);
            case 1 -> moon.forbid(0, i % 2 == 0);
            case 2 -> moon.debate();
            case 3 -> moon.drop();
            default -> moon.drift(1 + i);
        };
    }

    private static void eachKindIsUndone() {
        due.sentence("SEEN, HELD, FORBIDDEN, DEBATES are as ahead of it; THE SEED stays.");
        for (int kind = 0; kind < 5; kind++) {
            BarrelMoon moon = Due.townOf("t4;r1 2,0;r1 7;s0;");
            moon.seed(5);
            moon.debate();
            moon.forbid(1, true);
            moon.see(4, true);
            String before = now(moon);
            due.holds("change " + kind, change(moon, kind, 2) >= 0);
            int seed = moon.seed(0);
            moon.seed(seed);
            due.is("to undo", moon.told(12), 4);
            due.holds("change " + kind + " changes something", !now(moon).equals(before));
            due.is("undo", moon.undo(), 3);
            due.holds("as ahead of it", now(moon).equals(before));
            due.is("the seed stays", moon.seed(0), seed);
            due.holds("it was drawn by drift alone", kind == 4 ? seed != 5 : seed == 5);
        }
        // What changes nothing was not refused: it is undone, too.
        BarrelMoon same = Due.townOf("t4;r1 2,0;s0;");
        due.is("seen already", same.see(0, true), 1);
        due.is("not forbidden anyway", same.forbid(0, false), 0);
        due.is("nothing held anyway", same.drop(), 0);
        due.is("to undo", same.told(12), 3);
        due.is("undo", same.undo(), 2);
    }

    private static void othersAreNotUndone() {
        due.sentence("UNDONE: the latest of see(), forbid(), debate(), drop(), drift() that was not refused");
        BarrelMoon moon = Due.townOf("t4;r1 2,0;s0;");
        moon.see(3, true);
        moon.feed('x');
        moon.fault();
        moon.ask(1, 2, true);
        moon.write(2, 1);
        moon.seed(6);
        moon.follows(3);
        moon.proof(2, 0);
        moon.giveUp(0);
        moon.words(2);
        moon.step(2);
        moon.barred(2);
        moon.never();
        moon.round();
        moon.vote(3, 50);
        moon.believed(0);
        moon.askNext();
        moon.judge();
        due.is("to undo", moon.told(12), 1);
        due.is("undo", moon.undo(), 0);
        due.is("seen", moon.told(3), 1);
        due.is("the text stays", moon.told(2), 1);
        due.is("what was asked stays", moon.told(10), 1);
        due.is("the book stays", moon.told(11), 1);
        due.is("the seed stays", moon.seed(0), 6);
        moon.see(5, true);
        due.is("tear", moon.tear(), 2);
        due.is("undo", moon.undo(), 0);
        due.is("torn is torn", moon.told(10) + moon.told(11), 0);
        due.is("undone is not undone", moon.undo(), BarrelMoon.NOT);
    }

    private static void refusedIsNotUndone() {
        due.sentence("that was not refused");
        BarrelMoon moon = Due.townOf("t4;r1 2,0;s0;");
        moon.see(3, true);
        moon.see(8, true);
        moon.forbid(1, true);
        moon.drift(0);
        moon.drift(61);
        due.is("to undo", moon.told(12), 1);
        due.is("undo", moon.undo(), 0);
        due.is("undo refused", moon.undo(), BarrelMoon.NOT);
        due.is("undo refused", moon.undo(), BarrelMoon.NOT);
        due.is("to undo", moon.told(12), 0);
        moon.see(3, true);
        due.is("one more", moon.told(12), 1);
    }

    // ---- images, the seed

    private static void twoImages() {
        due.sentence("IMAGES 0, 1 keep these, THE SEED.");
        BarrelMoon moon = Due.townOf("t4;r1 2,0;s0;");
        due.is("goBack(0) ahead", moon.goBack(0), BarrelMoon.NOT);
        due.is("goBack(1) ahead", moon.goBack(1), BarrelMoon.NOT);
        moon.debate();
        moon.forbid(0, true);
        moon.seed(MOST);
        String first = now(moon);
        due.is("keep(0)", moon.keep(0), 1);
        due.is("goBack(1) still", moon.goBack(1), BarrelMoon.NOT);
        moon.drop();
        moon.see(0, false);
        moon.see(7, true);
        moon.forbid(0, false);
        moon.debate();
        moon.seed(0);
        String second = now(moon);
        due.is("keep(1)", moon.keep(1), 1);
        moon.drift(60);
        for (int times = 0; times < 2; times++) {
            due.is("goBack(0)", moon.goBack(0), 1);
            due.holds("image 0", now(moon).equals(first));
            due.is("its seed", moon.seed(17), MOST);
            moon.drop();
            due.is("goBack(1)", moon.goBack(1), 1);
            due.holds("image 1", now(moon).equals(second));
            due.is("its seed", moon.seed(18), 0);
            moon.drift(9);
        }
        due.is("keep(-1)", moon.keep(-1), BarrelMoon.UNKNOWN);
        due.is("keep(2)", moon.keep(2), BarrelMoon.UNKNOWN);
        due.is("goBack(-1)", moon.goBack(-1), BarrelMoon.UNKNOWN);
        due.is("goBack(2)", moon.goBack(2), BarrelMoon.UNKNOWN);
        due.sentence("IMAGE i becomes what is so (nothing can be undone then): 1. UNKNOWN.");
        moon.goBack(1);
        due.is("keep over image 0", moon.keep(0), 1);
        moon.drop();
        moon.goBack(0);
        due.holds("image 0 is the second now", now(moon).equals(second));
        due.is("its seed", moon.seed(0), 0);
    }

    private static void imagesAndUndo() {
        due.sentence("IMAGE i becomes what is so (nothing can be undone then): 1. UNKNOWN.");
        for (int i = 0; i <= 1; i++) {
            BarrelMoon moon = Due.townOf("t4;r1 2,0;s0;");
            moon.ask(1, 2, true);
            for (int k = 0; k < 21; k++) {
                moon.see(k % 8, k % 2 == 0);
            }
            due.is("to undo", moon.told(12), 20);
            due.is("keep", moon.keep(i), 1);
            due.is("to undo", moon.told(12), 0);
            due.is("undo", moon.undo(), BarrelMoon.NOT);
            due.sentence("What is so becomes IMAGE i (nothing can be undone then): 1. UNKNOWN, NOT: it was not kept.");
            moon.see(3, true);
            moon.write(2, 1);
            due.is("goBack to the other", moon.goBack(1 - i), BarrelMoon.NOT);
            due.is("to undo still", moon.told(12), 1);
            due.is("goBack", moon.goBack(i), 1);
            due.is("to undo", moon.told(12), 0);
            due.is("undo", moon.undo(), BarrelMoon.NOT);
            due.is("what was asked stays", moon.told(10), 1);
            due.is("the book stays", moon.told(11), 1);
            moon.drop();
            due.is("to undo again", moon.undo(), 0);
        }
    }

    private static void seeds() {
        due.sentence("THE SEED becomes v (0 .. 2147483647): what it was. OUTSIDE.");
        BarrelMoon moon = new BarrelMoon();
        due.is("seed(1)", moon.seed(1), 0);
        due.is("seed(0)", moon.seed(0), 1);
        due.is("seed(-1)", moon.seed(-1), BarrelMoon.OUTSIDE);
        due.is("seed(most less 1)", moon.seed(MOST - 1), 0);
        due.is("seed(most)", moon.seed(MOST), MOST - 1);
        // One above it is the least of all ints.
        due.is("seed(most + 1)", moon.seed(MOST + 1), BarrelMoon.OUTSIDE);
        due.is("seed(0)", moon.seed(0), MOST);
    }
}
