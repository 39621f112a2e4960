import java.util.Random;

/** All promises: runs by chance (always the same ones) against the model of the document. */
public final class ModelTest {
    private static final Due due = new Due("ModelTest");
    private static final int RUNS = 1500;
    private static final String WORDS = "trs,; 0123456789xT";

    private final Random random;
    private final BarrelMoon moon = new BarrelMoon();
    private final Model model = new Model();
    private int calls = 0;
    private String latest = "";

    private ModelTest(int run) {
        random = new Random(run);
    }

    public static void main(String[] args) {
        for (int run = 0; run < RUNS; run++) {
            new ModelTest(run).go(run);
        }
        due.end();
    }

    /** Two calls are left at least when a text begins, so that no object has more than 512. */
    private void go(int run) {
        while (calls < 510) {
            if (calls == 0 || chance(60)) {
                tellTown(run);
            } else {
                callOnce(run);
            }
        }
    }

    private boolean chance(int of) {
        return random.nextInt(of) == 0;
    }

    private void compare(int run, String call, int got, int want) {
        calls++;
        latest = latest + " " + call;
        due.is("run " + run + ", call " + calls + ": " + call + (got == want ? "" : " behind" + latest), got, want);
    }

    private void tellTown(int run) {
        String text = makeText();
        if (chance(3)) {
            text = spoil(text);
        }
        latest = "";
        for (int i = 0; i < text.length() && calls < 510; i++) {
            int letter = text.charAt(i);
            compare(run, "feed(" + letter + ")", moon.feed(letter), model.feed(letter));
        }
        latest = " \"" + text + "\"";
        compare(run, "town()", moon.town(), model.town());
        compare(run, "fault()", moon.fault(), model.fault());
    }

    private String blank() {
        return chance(12) ? " ".repeat(1 + random.nextInt(2)) : "";
    }

    private String number(int n) {
        return blank() + (chance(20) ? "0" : "") + n + blank();
    }

    private String makeText() {
        if (chance(30)) {
            return chance(2) ? "" : " ";
        }
        int things = chance(3) ? 1 + random.nextInt(8) : 2 + random.nextInt(3);
        int sayings = 2 * things;
        StringBuilder text = new StringBuilder(blank() + "t" + number(things) + ";" + blank());
        int rules = chance(6) ? 10 : random.nextInt(7);
        for (int r = 0; r < rules; r++) {
            int cost = chance(3) ? random.nextInt(100) : random.nextInt(4);
            text.append("r").append(number(cost)).append(' ').append(number(random.nextInt(sayings)));
            for (int k = random.nextInt(4) * random.nextInt(2) + random.nextInt(2); k > 0; k--) {
                text.append(',').append(number(random.nextInt(sayings)));
            }
            text.append(';').append(blank());
        }
        for (int s = random.nextInt(3); s > 0; s--) {
            text.append('s').append(number(random.nextInt(sayings))).append(';');
        }
        return text.toString();
    }

    private String spoil(String text) {
        StringBuilder spoilt = new StringBuilder(text);
        for (int times = 1 + random.nextInt(2); times > 0 && spoilt.length() > 0; times--) {
            int at = random.nextInt(spoilt.length());
            char letter = chance(10) ? (char) random.nextInt(256) : WORDS.charAt(random.nextInt(WORDS.length()));
            switch (random.nextInt(4)) {
                case 0 -> spoilt.setCharAt(at, letter);
                case 1 -> spoilt.insert(at, letter);
                case 2 -> spoilt.deleteCharAt(at);
                default -> spoilt.setLength(at);
            }
        }
        return spoilt.toString();
    }

    /** Mostly a number in 0 .. bound less 1, now and then one beside it or far off. */
    private int pick(int bound) {
        if (chance(25)) {
            int[] wild = {-1, bound, bound + 1, 255, 256, Integer.MAX_VALUE, Integer.MIN_VALUE, 31, 32, 33, -32};
            return wild[random.nextInt(wild.length)];
        }
        return bound > 0 ? random.nextInt(bound) : 0;
    }

    private int saying() {
        return pick(2 * model.told(0));
    }

    private int sayings() {
        return pick(1 << 2 * model.told(0)) & (chance(20) ? -1 : random.nextInt());
    }

    private void callOnce(int run) {
        int s = saying();
        int set = sayings();
        int r = pick(model.told(1));
        boolean is = random.nextBoolean();
        switch (random.nextInt(34)) {
            case 0, 1 -> compare(run, "see(" + s + ", " + is + ")", moon.see(s, is), model.see(s, is));
            case 2, 3 -> compare(run, "forbid(" + r + ", " + is + ")", moon.forbid(r, is), model.forbid(r, is));
            case 4 -> compare(run, "debate()", moon.debate(), model.debate());
            case 5 -> compare(run, "drop()", moon.drop(), model.drop());
            case 6 -> {
                int n = pick(61);
                compare(run, "drift(" + n + ")", moon.drift(n), model.drift(n));
            }
            case 7, 8 -> compare(run, "undo()", moon.undo(), model.undo());
            case 9 -> compare(run, "follows(" + set + ")", moon.follows(set), model.follows(set));
            case 10 -> {
                int what = pick(2);
                compare(run, "proof(" + s + ", " + what + ")", moon.proof(s, what), model.proof(s, what));
            }
            case 11 -> {
                int what = pick(2);
                compare(run, "giveUp(" + what + ")", moon.giveUp(what), model.giveUp(what));
            }
            case 12, 13 -> {
                if (model.told(0) < 6 || chance(10)) {
                    compare(run, "words(" + s + ")", moon.words(s), model.words(s));
                }
            }
            case 14 -> compare(run, "step(" + s + ")", moon.step(s), model.step(s));
            case 15 -> compare(run, "barred(" + s + ")", moon.barred(s), model.barred(s));
            case 16 -> compare(run, "never()", moon.never(), model.never());
            case 17 -> compare(run, "round()", moon.round(), model.round());
            case 18 -> {
                int n = pick(10);
                int q = pick(101);
                compare(run, "vote(" + n + ", " + q + ")", moon.vote(n, q), model.vote(n, q));
            }
            case 19, 20 -> compare(run, "ask(" + set + ", " + s + ", " + is + ")", moon.ask(set, s, is), model.ask(set, s, is));
            case 21 -> {
                int what = pick(3);
                compare(run, "believed(" + what + ")", moon.believed(what), model.believed(what));
            }
            case 22 -> compare(run, "askNext()", moon.askNext(), model.askNext());
            case 23, 24 -> {
                int follows = pick(2);
                compare(run, "write(" + s + ", " + follows + ")", moon.write(s, follows), model.write(s, follows));
            }
            case 25 -> {
                if (chance(4)) {
                    compare(run, "tear()", moon.tear(), model.tear());
                }
            }
            case 26 -> compare(run, "judge()", moon.judge(), model.judge());
            case 27 -> {
                int v = random.nextInt();
                compare(run, "seed(" + v + ")", moon.seed(v), model.seed(v));
            }
            case 28 -> {
                if (chance(4)) {
                    int i = pick(2);
                    compare(run, "keep(" + i + ")", moon.keep(i), model.keep(i));
                }
            }
            case 29 -> {
                if (chance(3)) {
                    int i = pick(2);
                    compare(run, "goBack(" + i + ")", moon.goBack(i), model.goBack(i));
                }
            }
            case 30 -> {
                int what = pick(4);
                compare(run, "rule(" + r + ", " + what + ")", moon.rule(r, what), model.rule(r, what));
            }
            case 31 -> compare(run, "fault()", moon.fault(), model.fault());
            default -> {
                int what = pick(13);
                compare(run, "told(" + what + ")", moon.told(what), model.told(what));
            }
        }
    }
}
