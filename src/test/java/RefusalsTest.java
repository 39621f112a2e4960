import java.util.function.Supplier;

/**
 * 'REFUSALS, of several the first in this order' and 'What is refused changes nothing', for every call:
 * each number one below its bounds, at them and one above them, and numbers far off.
 */
public final class RefusalsTest {
    private static final Due due = new Due("RefusalsTest");
    private static final int UNKNOWN = BarrelMoon.UNKNOWN;
    private static final int OUTSIDE = BarrelMoon.OUTSIDE;
    private static final int NOT = BarrelMoon.NOT;
    private static final int FULL = BarrelMoon.FULL;
    private static final int LEAST = Integer.MIN_VALUE;
    private static final int MOST = Integer.MAX_VALUE;
    /** The rich town has SAYINGS 0 .. 7 and RULES 0 .. 4. */
    private static final int[] NO_SAYINGS = {-1, 8, 9, 16, 31, 32, 33, 64, -8, -32, -31, LEAST, LEAST + 1, MOST};
    private static final int[] NO_RULES = {-1, 5, 6, 10, 31, 32, 33, 64, -5, -32, -31, LEAST, LEAST + 1, MOST};
    private static final int[] NO_SETS = {-1, 1 << 8, 1 << 8 | 1, 1 << 9, 1 << 16, 1 << 30, LEAST, LEAST | 1, MOST};
    private static final int[] NO_IMAGES = {-1, 2, 3, 32, 33, -2, LEAST, MOST};

    public static void main(String[] args) {
        unknownSayings();
        unknownRules();
        unknownSets();
        unknownImages();
        outside();
        notNow();
        full();
        unknownAheadOfOutside();
        unknownAheadOfNot();
        unknownAheadOfFull();
        outsideAheadOfNot();
        outsideAheadOfFull();
        atTheBounds();
        lookingOn();
        due.end();
    }

    // ---- states

    /** Something in every part that a call could change, none of it full. */
    private static BarrelMoon rich() {
        BarrelMoon moon = Due.townOf("t4;r5 2,0;r3 4,2;r9 3,6;r2 4,0;r1 6;s0;");
        moon.seed(12345);
        moon.forbid(2, true);
        moon.debate();
        moon.keep(0);
        moon.see(5, true);
        moon.drift(3);
        moon.keep(1);
        moon.forbid(3, true);
        moon.debate();
        moon.drift(2);
        moon.see(0, true);
        moon.drop();
        moon.debate();
        moon.ask(1, 4, true);
        moon.ask(4, 4, false);
        moon.write(4, 1);
        moon.write(7, 0);
        Due.feedAll(moon, "t2;s3;");
        return moon;
    }

    /** As rich as the other, with as much ASKED, in THE BOOK, in THE TEXT and to be undone as there can be. */
    private static BarrelMoon filled() {
        BarrelMoon moon = rich();
        for (int i = 2; i < 6; i++) {
            moon.ask(1 << i, 4, i < 4);
        }
        for (int i = 2; i < 15; i++) {
            moon.write(i % 8, i % 2);
        }
        for (int i = 6; i < 240; i++) {
            moon.feed(' ');
        }
        for (int i = 0; i < 20; i++) {
            moon.see(i % 7, i % 3 == 0);
        }
        return moon;
    }

    /** No TOWN, but a seed, a text and a fault. */
    private static BarrelMoon townless() {
        BarrelMoon moon = new BarrelMoon();
        Due.feedAll(moon, "t9;");
        moon.town();
        moon.seed(77);
        Due.feedAll(moon, "t3;s1;");
        return moon;
    }

    /** A TOWN of which nothing is kept and nothing can be undone. */
    private static BarrelMoon fresh() {
        return Due.townOf("t4;r5 2,0;r3 4,2;r9 3,6;r2 4,0;r1 6;s0;");
    }

    private static Twins in(String state, Supplier<BarrelMoon> make) {
        return new Twins(due, state, make);
    }

    // ---- one refusal at a time

    private static void unknownSayings() {
        due.sentence("UNKNOWN (a SAYING, RULE, IMAGE that there is not; bits of such)");
        Twins rich = in("rich", RefusalsTest::rich);
        for (int s : NO_SAYINGS) {
            unknownSaying(rich, s);
        }
        // Without a TOWN there is no SAYING, not even 0.
        unknownSaying(in("no town", RefusalsTest::townless), 0);
        unknownSaying(in("new", BarrelMoon::new), 0);
    }

    private static void unknownSaying(Twins state, int s) {
        state.alike("see(" + s + ", true)", moon -> moon.see(s, true), UNKNOWN);
        state.alike("see(" + s + ", false)", moon -> moon.see(s, false), UNKNOWN);
        state.alike("proof(" + s + ", 0)", moon -> moon.proof(s, 0), UNKNOWN);
        state.alike("proof(" + s + ", 1)", moon -> moon.proof(s, 1), UNKNOWN);
        state.alike("words(" + s + ")", moon -> moon.words(s), UNKNOWN);
        state.alike("step(" + s + ")", moon -> moon.step(s), UNKNOWN);
        state.alike("barred(" + s + ")", moon -> moon.barred(s), UNKNOWN);
        state.alike("ask(0, " + s + ", true)", moon -> moon.ask(0, s, true), UNKNOWN);
        state.alike("ask(0, " + s + ", false)", moon -> moon.ask(0, s, false), UNKNOWN);
        state.alike("write(" + s + ", 0)", moon -> moon.write(s, 0), UNKNOWN);
        state.alike("write(" + s + ", 1)", moon -> moon.write(s, 1), UNKNOWN);
    }

    private static void unknownRules() {
        due.sentence("UNKNOWN (a SAYING, RULE, IMAGE that there is not; bits of such)");
        Twins rich = in("rich", RefusalsTest::rich);
        for (int r : NO_RULES) {
            unknownRule(rich, r);
        }
        unknownRule(in("no town", RefusalsTest::townless), 0);
        unknownRule(in("new", BarrelMoon::new), 0);
        unknownRule(in("no rules", () -> Due.townOf("t8;s3;")), 0);
        unknownRule(in("ten rules", () -> Due.townOf("t8;" + "r1 2;".repeat(10))), 10);
    }

    private static void unknownRule(Twins state, int r) {
        for (int what = 0; what <= 3; what++) {
            int of = what;
            state.alike("rule(" + r + ", " + of + ")", moon -> moon.rule(r, of), UNKNOWN);
        }
        state.alike("forbid(" + r + ", true)", moon -> moon.forbid(r, true), UNKNOWN);
        state.alike("forbid(" + r + ", false)", moon -> moon.forbid(r, false), UNKNOWN);
    }

    private static void unknownSets() {
        due.sentence("UNKNOWN (a SAYING, RULE, IMAGE that there is not; bits of such)");
        Twins rich = in("rich", RefusalsTest::rich);
        for (int set : NO_SETS) {
            unknownSet(rich, set);
        }
        unknownSet(in("no town", RefusalsTest::townless), 1);
        unknownSet(in("new", BarrelMoon::new), 1);
        unknownSet(in("16 sayings", () -> Due.townOf("t8;")), 1 << 16);
        unknownSet(in("16 sayings", () -> Due.townOf("t8;")), LEAST);
        unknownSet(in("2 sayings", () -> Due.townOf("t1;")), 4);
    }

    private static void unknownSet(Twins state, int set) {
        state.alike("follows(" + set + ")", moon -> moon.follows(set), UNKNOWN);
        state.alike("ask(" + set + ", 0, true)", moon -> moon.ask(set, 0, true), UNKNOWN);
        state.alike("ask(" + set + ", 0, false)", moon -> moon.ask(set, 0, false), UNKNOWN);
    }

    private static void unknownImages() {
        due.sentence("IMAGES 0, 1 keep these, THE SEED.");
        for (int i : NO_IMAGES) {
            in("rich", RefusalsTest::rich).alike("keep(" + i + ")", moon -> moon.keep(i), UNKNOWN);
            in("rich", RefusalsTest::rich).alike("goBack(" + i + ")", moon -> moon.goBack(i), UNKNOWN);
            in("new", BarrelMoon::new).alike("keep(" + i + ")", moon -> moon.keep(i), UNKNOWN);
        }
    }

    private static void outside() {
        due.sentence("OUTSIDE (another number out of its bounds)");
        outsideOfAnyState(in("new", BarrelMoon::new));
        outsideOfAnyState(in("no town", RefusalsTest::townless));
        outsideOfAnyState(in("rich", RefusalsTest::rich));
        Twins rich = in("rich", RefusalsTest::rich);
        for (int what : new int[] {-1, 4, 5, LEAST, MOST}) {
            rich.alike("rule(0, " + what + ")", moon -> moon.rule(0, what), OUTSIDE);
            rich.alike("rule(4, " + what + ")", moon -> moon.rule(4, what), OUTSIDE);
        }
        for (int what : new int[] {-1, 2, 3, LEAST, MOST}) {
            rich.alike("proof(0, " + what + ")", moon -> moon.proof(0, what), OUTSIDE);
            rich.alike("proof(7, " + what + ")", moon -> moon.proof(7, what), OUTSIDE);
            rich.alike("write(0, " + what + ")", moon -> moon.write(0, what), OUTSIDE);
            rich.alike("write(7, " + what + ")", moon -> moon.write(7, what), OUTSIDE);
        }
    }

    private static void outsideOfAnyState(Twins state) {
        for (int letter : new int[] {-1, 256, 257, -255, LEAST, MOST}) {
            state.alike("feed(" + letter + ")", moon -> moon.feed(letter), OUTSIDE);
        }
        for (int what : new int[] {-1, 13, 14, LEAST, MOST}) {
            state.alike("told(" + what + ")", moon -> moon.told(what), OUTSIDE);
        }
        for (int n : new int[] {0, -1, 61, 62, LEAST, MOST}) {
            state.alike("drift(" + n + ")", moon -> moon.drift(n), OUTSIDE);
        }
        for (int what : new int[] {-1, 2, 3, LEAST, MOST}) {
            state.alike("giveUp(" + what + ")", moon -> moon.giveUp(what), OUTSIDE);
        }
        for (int what : new int[] {-1, 3, 4, LEAST, MOST}) {
            state.alike("believed(" + what + ")", moon -> moon.believed(what), OUTSIDE);
        }
        for (int n : new int[] {0, -1, 10, 11, LEAST, MOST}) {
            state.alike("vote(" + n + ", 50)", moon -> moon.vote(n, 50), OUTSIDE);
            state.alike("vote(" + n + ", 101)", moon -> moon.vote(n, 101), OUTSIDE);
        }
        for (int q : new int[] {-1, 101, 102, LEAST, MOST}) {
            state.alike("vote(1, " + q + ")", moon -> moon.vote(1, q), OUTSIDE);
            state.alike("vote(9, " + q + ")", moon -> moon.vote(9, q), OUTSIDE);
        }
        for (int v : new int[] {-1, -2, LEAST}) {
            state.alike("seed(" + v + ")", moon -> moon.seed(v), OUTSIDE);
        }
    }

    private static void notNow() {
        due.sentence("NOT (not now, as told)");
        for (Twins state : new Twins[] {in("new", BarrelMoon::new), in("no town", RefusalsTest::townless)}) {
            state.alike("debate()", BarrelMoon::debate, NOT);
            state.alike("drop()", BarrelMoon::drop, NOT);
            state.alike("drift(1)", moon -> moon.drift(1), NOT);
            state.alike("drift(60)", moon -> moon.drift(60), NOT);
            state.alike("undo()", BarrelMoon::undo, NOT);
            state.alike("goBack(0)", moon -> moon.goBack(0), NOT);
            state.alike("goBack(1)", moon -> moon.goBack(1), NOT);
        }
        Twins left = in("a town that was left for none", RefusalsTest::left);
        left.alike("debate()", BarrelMoon::debate, NOT);
        left.alike("drop()", BarrelMoon::drop, NOT);
        left.alike("drift(1)", moon -> moon.drift(1), NOT);
        left.alike("undo()", BarrelMoon::undo, NOT);
        left.alike("goBack(0)", moon -> moon.goBack(0), NOT);
        Twins fresh = in("fresh", RefusalsTest::fresh);
        fresh.alike("undo()", BarrelMoon::undo, NOT);
        fresh.alike("goBack(0)", moon -> moon.goBack(0), NOT);
        fresh.alike("goBack(1)", moon -> moon.goBack(1), NOT);
    }

    private static BarrelMoon left() {
        BarrelMoon moon = fresh();
        moon.debate();
        moon.keep(0);
        moon.see(3, true);
        moon.seed(9);
        moon.town();
        return moon;
    }

    private static void full() {
        due.sentence("What is refused changes nothing.");
        Twins filled = in("filled", RefusalsTest::filled);
        for (int letter : new int[] {0, ' ', ';', 't', 255}) {
            filled.alike("feed(" + letter + ")", moon -> moon.feed(letter), FULL);
        }
        filled.alike("ask(0, 0, true)", moon -> moon.ask(0, 0, true), FULL);
        filled.alike("ask(255, 7, false)", moon -> moon.ask(255, 7, false), FULL);
        filled.alike("write(0, 0)", moon -> moon.write(0, 0), FULL);
        filled.alike("write(7, 1)", moon -> moon.write(7, 1), FULL);
    }

    // ---- two refusals at once

    private static void unknownAheadOfOutside() {
        due.sentence("REFUSALS, of several the first in this order: UNKNOWN");
        for (Twins state : new Twins[] {in("rich", RefusalsTest::rich), in("filled", RefusalsTest::filled)}) {
            for (int what : new int[] {-1, 4, LEAST, MOST}) {
                state.alike("rule(5, " + what + ")", moon -> moon.rule(5, what), UNKNOWN);
                state.alike("rule(-1, " + what + ")", moon -> moon.rule(-1, what), UNKNOWN);
            }
            for (int what : new int[] {-1, 2, LEAST, MOST}) {
                state.alike("proof(8, " + what + ")", moon -> moon.proof(8, what), UNKNOWN);
                state.alike("proof(-1, " + what + ")", moon -> moon.proof(-1, what), UNKNOWN);
                state.alike("write(8, " + what + ")", moon -> moon.write(8, what), UNKNOWN);
                state.alike("write(-1, " + what + ")", moon -> moon.write(-1, what), UNKNOWN);
            }
        }
        Twins none = in("new", BarrelMoon::new);
        none.alike("rule(0, 4)", moon -> moon.rule(0, 4), UNKNOWN);
        none.alike("proof(0, 2)", moon -> moon.proof(0, 2), UNKNOWN);
        none.alike("write(0, 2)", moon -> moon.write(0, 2), UNKNOWN);
    }

    private static void unknownAheadOfNot() {
        due.sentence("UNKNOWN, NOT: it was not kept.");
        for (int i : NO_IMAGES) {
            in("new", BarrelMoon::new).alike("goBack(" + i + ")", moon -> moon.goBack(i), UNKNOWN);
            in("fresh", RefusalsTest::fresh).alike("goBack(" + i + ")", moon -> moon.goBack(i), UNKNOWN);
        }
    }

    private static void unknownAheadOfFull() {
        due.sentence("UNKNOWN, FULL (6).");
        Twins filled = in("filled", RefusalsTest::filled);
        filled.alike("ask(256, 0, true)", moon -> moon.ask(256, 0, true), UNKNOWN);
        filled.alike("ask(-1, 0, true)", moon -> moon.ask(-1, 0, true), UNKNOWN);
        filled.alike("ask(0, 8, true)", moon -> moon.ask(0, 8, true), UNKNOWN);
        filled.alike("ask(0, -1, true)", moon -> moon.ask(0, -1, true), UNKNOWN);
        due.sentence("UNKNOWN, OUTSIDE, FULL (15).");
        filled.alike("write(8, 0)", moon -> moon.write(8, 0), UNKNOWN);
        filled.alike("write(-1, 1)", moon -> moon.write(-1, 1), UNKNOWN);
    }

    private static void outsideAheadOfNot() {
        due.sentence("OUTSIDE, NOT: no TOWN; FULL: DEBATES are above 9000.");
        for (int n : new int[] {0, -1, 61, LEAST, MOST}) {
            in("new", BarrelMoon::new).alike("drift(" + n + ")", moon -> moon.drift(n), OUTSIDE);
            in("no town", RefusalsTest::townless).alike("drift(" + n + ")", moon -> moon.drift(n), OUTSIDE);
        }
    }

    private static void outsideAheadOfFull() {
        due.sentence("OUTSIDE, FULL (240).");
        Twins filled = in("filled", RefusalsTest::filled);
        for (int letter : new int[] {-1, 256, LEAST, MOST}) {
            filled.alike("feed(" + letter + ")", moon -> moon.feed(letter), OUTSIDE);
        }
        due.sentence("UNKNOWN, OUTSIDE, FULL (15).");
        for (int follows : new int[] {-1, 2, LEAST, MOST}) {
            filled.alike("write(0, " + follows + ")", moon -> moon.write(0, follows), OUTSIDE);
        }
    }

    // ---- what is not refused

    /** The numbers at the bounds are taken, so that nothing is refused too early. */
    private static void atTheBounds() {
        due.sentence("One letter (a number 0 .. 255) comes behind THE TEXT: how many it has.");
        due.is("feed(0)", rich().feed(0), 7);
        due.is("feed(255)", rich().feed(255), 7);
        due.sentence("a SET of SAYINGS");
        for (int s : new int[] {0, 7}) {
            due.holds("see(" + s + ")", rich().see(s, true) >= 0);
            due.holds("proof(" + s + ", 0)", rich().proof(s, 0) >= BarrelMoon.NONE);
            due.holds("proof(" + s + ", 1)", rich().proof(s, 1) >= BarrelMoon.NONE);
            due.holds("words(" + s + ")", rich().words(s) >= BarrelMoon.NONE);
            due.holds("step(" + s + ")", rich().step(s) >= 0);
            due.holds("barred(" + s + ")", rich().barred(s) >= BarrelMoon.NONE);
            due.is("ask(0, " + s + ")", rich().ask(0, s, true), 3);
            due.is("ask(255, " + s + ")", rich().ask(255, s, false), 3);
            due.is("write(" + s + ", 0)", rich().write(s, 0), 3);
            due.is("write(" + s + ", 1)", rich().write(s, 1), 3);
        }
        for (int r : new int[] {0, 4}) {
            due.holds("forbid(" + r + ")", rich().forbid(r, true) >= 0);
            for (int what = 0; what <= 3; what++) {
                due.holds("rule(" + r + ", " + what + ")", rich().rule(r, what) >= 0);
            }
        }
        for (int what = 0; what <= 12; what++) {
            due.holds("told(" + what + ")", rich().told(what) >= 0);
            due.holds("new told(" + what + ")", new BarrelMoon().told(what) == 0);
        }
        due.holds("drift(1)", rich().drift(1) >= 0);
        due.holds("drift(60)", rich().drift(60) >= 0);
        due.holds("follows(255)", rich().follows(255) == 255);
        due.is("keep(0)", rich().keep(0), 1);
        due.is("keep(1)", rich().keep(1), 1);
        due.is("goBack(0)", rich().goBack(0), 1);
        due.is("goBack(1)", rich().goBack(1), 1);
        due.holds("seed(0)", rich().seed(0) >= 0);
        due.holds("seed(most)", rich().seed(MOST) >= 0);
    }

    /** What tells or tries something changes as little as what is refused. */
    private static void lookingOn() {
        due.sentence("TRIED from now; nothing changes by it;");
        for (Twins state : new Twins[] {in("rich", RefusalsTest::rich), in("filled", RefusalsTest::filled)}) {
            state.alike("fault", BarrelMoon::fault);
            for (int what = 0; what <= 12; what++) {
                int of = what;
                state.alike("told(" + of + ")", moon -> moon.told(of));
            }
            for (int s = 0; s < 8; s++) {
                int saying = s;
                state.alike("follows(" + (1 << saying) + ")", moon -> moon.follows(1 << saying));
                state.alike("proof(" + saying + ", 0)", moon -> moon.proof(saying, 0));
                state.alike("proof(" + saying + ", 1)", moon -> moon.proof(saying, 1));
                state.alike("words(" + saying + ")", moon -> moon.words(saying));
                state.alike("step(" + saying + ")", moon -> moon.step(saying));
                state.alike("barred(" + saying + ")", moon -> moon.barred(saying));
            }
            for (int what = 0; what <= 2; what++) {
                int of = what;
                state.alike("rule(4, " + of + ")", moon -> moon.rule(4, of));
                state.alike("giveUp(" + of + ")", moon -> moon.giveUp(of));
                state.alike("believed(" + of + ")", moon -> moon.believed(of));
            }
            state.alike("never", BarrelMoon::never);
            state.alike("round", BarrelMoon::round);
            state.alike("vote(9, 33)", moon -> moon.vote(9, 33), 139775926);
            state.alike("askNext", BarrelMoon::askNext);
            state.alike("judge", BarrelMoon::judge);
        }
    }
}
