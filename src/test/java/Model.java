import java.util.ArrayDeque;
import java.util.ArrayList;
import java.util.List;
import java.util.TreeSet;
import java.util.function.Predicate;

/**
 * The document once more, written apart from the class and as near to its words as can be: sets are
 * sets, and what is fewest or least is looked for among all there are.
 */
final class Model {
    static final int NONE = -1;
    static final int UNKNOWN = -1000000001;
    static final int OUTSIDE = -1000000002;
    static final int NOT = -1000000003;
    static final int FULL = -1000000004;

    record Rule(int cost, int concluded, TreeSet<Integer> premises) { }

    record State(TreeSet<Integer> seen, TreeSet<Integer> held, TreeSet<Integer> forbidden, int debates) {
        State copy() {
            return new State(new TreeSet<>(seen), new TreeSet<>(held), new TreeSet<>(forbidden), debates);
        }
    }

    record Asked(TreeSet<Integer> from, int saying, boolean concluded) { }

    record Image(State state, long seed) { }

    private final StringBuilder text = new StringBuilder();
    private int faultAt = NONE;
    private int things = 0;
    private List<Rule> rules = new ArrayList<>();
    private State state = new State(new TreeSet<>(), new TreeSet<>(), new TreeSet<>(), 0);
    private final ArrayDeque<State> past = new ArrayDeque<>();
    private final List<Asked> asked = new ArrayList<>();
    private final List<int[]> book = new ArrayList<>();
    private final Image[] images = new Image[2];
    private long seed = 0;

    // ---- sets

    static TreeSet<Integer> setOf(int bits) {
        TreeSet<Integer> set = new TreeSet<>();
        for (int k = 0; k < 32; k++) {
            if ((bits & (1 << k)) != 0) {
                set.add(k);
            }
        }
        return set;
    }

    static int bits(Iterable<Integer> set) {
        int bits = 0;
        for (int k : set) {
            bits += 1 << k;
        }
        return bits;
    }

    // ---- the town

    int feed(int letter) {
        if (letter < 0 || letter > 255) {
            return OUTSIDE;
        }
        if (text.length() == 240) {
            return FULL;
        }
        text.append((char) letter);
        return text.length();
    }

    /** One word or NUMBER of the text, and where it begins. */
    record Token(String word, int at) {
        boolean isNumber() {
            return !word.isEmpty() && word.chars().allMatch(c -> c >= '0' && c <= '9');
        }
    }

    static final class Faulty extends Exception {
        final int kind;
        final int at;

        Faulty(int kind, int at) {
            this.kind = kind;
            this.at = at;
        }
    }

    private List<Token> tokens() {
        List<Token> tokens = new ArrayList<>();
        java.util.regex.Matcher matcher = java.util.regex.Pattern.compile("[0-9]+|[^ ]", java.util.regex.Pattern.DOTALL)
                .matcher(text);
        while (matcher.find()) {
            tokens.add(new Token(matcher.group(), matcher.start()));
        }
        tokens.add(new Token("", text.length()));
        return tokens;
    }

    private static int number(Token token, int least, int most) throws Faulty {
        if (!token.isNumber()) {
            throw new Faulty(1, token.at);
        }
        if (token.word.length() > 3 || Integer.parseInt(token.word) < least || Integer.parseInt(token.word) > most) {
            throw new Faulty(2, token.at);
        }
        return Integer.parseInt(token.word);
    }

    /** A walk by states: what may stand next is told by the state's name. */
    int town() {
        int newThings = 0;
        List<Rule> newRules = new ArrayList<>();
        TreeSet<Integer> newSeen = new TreeSet<>();
        int cost = 0;
        int concluded = 0;
        TreeSet<Integer> premises = new TreeSet<>();
        try {
            String expect = text.toString().replace(" ", "").isEmpty() ? "clause" : "things";
            for (Token token : tokens()) {
                String word = token.word;
                switch (expect) {
                    case "things" -> expect = only(token, "t", "N");
                    case "N" -> {
                        newThings = number(token, 1, 8);
                        expect = "end";
                    }
                    case "end" -> expect = only(token, ";", "clause");
                    case "clause" -> {
                        if (word.equals("t") || word.equals("r") && newRules.size() == 10) {
                            throw new Faulty(3, token.at);
                        }
                        expect = word.equals("r") ? "C" : word.equals("s") ? "seen" : word.isEmpty() ? "over" : null;
                        if (expect == null) {
                            throw new Faulty(1, token.at);
                        }
                    }
                    case "C" -> {
                        cost = number(token, 0, 99);
                        expect = "Q";
                    }
                    case "Q" -> {
                        concluded = number(token, 0, 2 * newThings - 1);
                        premises = new TreeSet<>();
                        expect = "more";
                    }
                    case "more" -> {
                        if (word.equals(";")) {
                            newRules.add(new Rule(cost, concluded, premises));
                            expect = "clause";
                        } else if (word.equals(",") && premises.size() < 3) {
                            expect = "S";
                        } else {
                            throw new Faulty(1, token.at);
                        }
                    }
                    case "S" -> {
                        int s = number(token, 0, 2 * newThings - 1);
                        if (s == concluded || !premises.add(s)) {
                            throw new Faulty(4, token.at);
                        }
                        expect = "more";
                    }
                    case "seen" -> {
                        if (!newSeen.add(number(token, 0, 2 * newThings - 1))) {
                            throw new Faulty(4, token.at);
                        }
                        expect = "end";
                    }
                    default -> throw new IllegalStateException(expect);
                }
            }
        } catch (Faulty fault) {
            text.setLength(0);
            faultAt = fault.at;
            return -10 - fault.kind;
        }
        text.setLength(0);
        faultAt = NONE;
        things = newThings;
        rules = newRules;
        state = new State(newSeen, new TreeSet<>(), new TreeSet<>(), 0);
        past.clear();
        asked.clear();
        book.clear();
        images[0] = null;
        images[1] = null;
        return rules.size();
    }

    private static String only(Token token, String word, String next) throws Faulty {
        if (!token.word.equals(word)) {
            throw new Faulty(1, token.at);
        }
        return next;
    }

    int fault() {
        return faultAt;
    }

    int told(int what) {
        return switch (what) {
            case 0 -> things;
            case 1 -> rules.size();
            case 2 -> text.length();
            case 3 -> bits(state.seen);
            case 4 -> bits(state.held);
            case 5 -> bits(state.forbidden);
            case 6 -> state.debates;
            case 7 -> bits(from(state.seen, free()));
            case 8 -> bits(quarrels(from(state.seen, free())));
            case 9 -> bits(quarrels(state.held));
            case 10 -> asked.size();
            case 11 -> book.size();
            case 12 -> past.size();
            default -> OUTSIDE;
        };
    }

    int rule(int r, int what) {
        if (r < 0 || r >= rules.size()) {
            return UNKNOWN;
        }
        Rule rule = rules.get(r);
        return switch (what) {
            case 0 -> rule.cost;
            case 1 -> rule.concluded;
            case 2 -> bits(rule.premises);
            case 3 -> state.forbidden.contains(r) ? 1 : 0;
            default -> OUTSIDE;
        };
    }

    // ---- what follows

    private TreeSet<Integer> free() {
        TreeSet<Integer> free = new TreeSet<>();
        for (int r = 0; r < rules.size(); r++) {
            if (!state.forbidden.contains(r)) {
                free.add(r);
            }
        }
        return free;
    }

    private TreeSet<Integer> from(TreeSet<Integer> set, TreeSet<Integer> by) {
        TreeSet<Integer> so = new TreeSet<>(set);
        for (int r : by) {
            Rule rule = rules.get(r);
            if (so.containsAll(rule.premises) && !so.contains(rule.concluded)) {
                so.add(rule.concluded);
                return from(so, by);
            }
        }
        return so;
    }

    private static TreeSet<Integer> quarrels(TreeSet<Integer> set) {
        TreeSet<Integer> quarrels = new TreeSet<>();
        for (int s : set) {
            if (s % 2 == 0 && set.contains(s + 1)) {
                quarrels.add(s / 2);
            }
        }
        return quarrels;
    }

    private boolean isSaying(int s) {
        return s >= 0 && s < 2 * things;
    }

    private boolean areSayings(int set) {
        for (int k : setOf(set)) {
            if (!isSaying(k)) {
                return false;
            }
        }
        return true;
    }

    // ---- what is done

    private void remember() {
        past.addLast(state.copy());
        if (past.size() > 20) {
            past.removeFirst();
        }
    }

    int see(int s, boolean is) {
        if (!isSaying(s)) {
            return UNKNOWN;
        }
        remember();
        return (is ? !state.seen.add(s) : state.seen.remove(s)) ? 1 : 0;
    }

    int forbid(int r, boolean is) {
        if (r < 0 || r >= rules.size()) {
            return UNKNOWN;
        }
        remember();
        return (is ? !state.forbidden.add(r) : state.forbidden.remove(r)) ? 1 : 0;
    }

    private void doDebate() {
        TreeSet<Integer> both = new TreeSet<>(state.seen);
        both.addAll(state.held);
        state = new State(state.seen, from(both, free()), state.forbidden, state.debates + 1);
    }

    int debate() {
        if (things == 0) {
            return NOT;
        }
        if (state.debates > 9000) {
            return FULL;
        }
        remember();
        doDebate();
        return bits(state.held);
    }

    int drop() {
        if (things == 0) {
            return NOT;
        }
        remember();
        int was = bits(state.held);
        state.held.clear();
        return was;
    }

    private int draw(int n) {
        seed = java.math.BigInteger.valueOf(seed).multiply(java.math.BigInteger.valueOf(1103515245))
                .add(java.math.BigInteger.valueOf(12345)).mod(java.math.BigInteger.TWO.pow(31)).longValueExact();
        return (int) (seed / 65536 % n);
    }

    int drift(int n) {
        if (n < 1 || n > 60) {
            return OUTSIDE;
        }
        if (things == 0) {
            return NOT;
        }
        if (state.debates > 9000) {
            return FULL;
        }
        remember();
        for (int day = 1; day <= n; day++) {
            int s = draw(2 * things);
            state.seen.add(s);
            state.seen.remove(s % 2 == 0 ? s + 1 : s - 1);
            if (draw(4) == 0) {
                doDebate();
            }
        }
        return bits(state.seen);
    }

    int undo() {
        if (past.isEmpty()) {
            return NOT;
        }
        state = past.removeLast();
        return past.size();
    }

    // ---- tried

    int follows(int set) {
        return areSayings(set) ? bits(from(setOf(set), free())) : UNKNOWN;
    }

    /** Of all sets of these that will do the one with the least price, of like ones the least; null. */
    private TreeSet<Integer> least(TreeSet<Integer> of, Predicate<TreeSet<Integer>> will,
            java.util.function.ToIntFunction<TreeSet<Integer>> price) {
        TreeSet<Integer> best = null;
        for (int set = bits(of); ; set = set - 1 & bits(of)) {
            TreeSet<Integer> now = setOf(set);
            if ((best == null || price.applyAsInt(now) <= price.applyAsInt(best)) && will.test(now)) {
                best = now;
            }
            if (set == 0) {
                return best;
            }
        }
    }

    private static TreeSet<Integer> without(TreeSet<Integer> set, TreeSet<Integer> out) {
        TreeSet<Integer> left = new TreeSet<>(set);
        left.removeAll(out);
        return left;
    }

    private static int setOrNone(TreeSet<Integer> set) {
        return set == null ? NONE : bits(set);
    }

    int proof(int s, int what) {
        if (!isSaying(s)) {
            return UNKNOWN;
        }
        if (what != 0 && what != 1) {
            return OUTSIDE;
        }
        TreeSet<Integer> proof = least(free(), set -> from(state.seen, set).contains(s), TreeSet::size);
        return proof == null ? NONE : what == 0 ? proof.size() : bits(proof);
    }

    private int cost(TreeSet<Integer> set) {
        return set.stream().mapToInt(r -> rules.get(r).cost).sum();
    }

    int giveUp(int what) {
        if (what != 0 && what != 1) {
            return OUTSIDE;
        }
        TreeSet<Integer> up = least(free(), set -> quarrels(from(state.seen, without(free(), set))).isEmpty(), this::cost);
        return up == null ? NONE : what == 0 ? bits(up) : cost(up);
    }

    int words(int s) {
        if (!isSaying(s)) {
            return UNKNOWN;
        }
        TreeSet<Integer> others = new TreeSet<>();
        for (int k = 0; k < 2 * things; k++) {
            if (k / 2 != s / 2) {
                others.add(k);
            }
        }
        return setOrNone(least(others, set -> {
            if (set.size() > 3) {
                return false;
            }
            TreeSet<Integer> all = new TreeSet<>(state.seen);
            all.addAll(set);
            TreeSet<Integer> so = from(all, free());
            return so.contains(s) && quarrels(so).isEmpty();
        }, TreeSet::size));
    }

    int step(int s) {
        if (!isSaying(s)) {
            return UNKNOWN;
        }
        TreeSet<Integer> steps = new TreeSet<>();
        for (int r : free()) {
            if (from(state.seen, free()).contains(s)
                    && !from(state.seen, without(free(), setOf(1 << r))).contains(s)) {
                steps.add(r);
            }
        }
        return bits(steps);
    }

    int barred(int s) {
        if (!isSaying(s)) {
            return UNKNOWN;
        }
        return setOrNone(least(free(), set -> !from(state.seen, without(free(), set)).contains(s), TreeSet::size));
    }

    int never() {
        TreeSet<Integer> never = new TreeSet<>();
        for (int s = 0; s < 2 * things; s++) {
            int saying = s;
            if (free().stream().noneMatch(r -> rules.get(r).concluded == saying)) {
                never.add(s);
            }
        }
        return bits(never);
    }

    int round() {
        TreeSet<Integer> round = new TreeSet<>();
        for (int r : free()) {
            int s = rules.get(r).concluded;
            if (from(setOf(1 << s), free()).containsAll(rules.get(r).premises)) {
                round.add(s);
            }
        }
        return bits(round);
    }

    int vote(int n, int q) {
        if (n < 1 || n > 9 || q < 0 || q > 100) {
            return OUTSIDE;
        }
        long[][] parts = new long[n + 1][n + 2];
        parts[0][0] = 1000000000L;
        for (int man = 1; man <= n; man++) {
            for (int yes = 0; yes < man; yes++) {
                long more = parts[man - 1][yes] * q / 100;
                parts[man][yes + 1] += more;
                parts[man][yes] += parts[man - 1][yes] - more;
            }
        }
        long odds = 0;
        for (int yes = n; yes > n / 2; yes--) {
            odds += parts[n][yes];
        }
        return (int) odds;
    }

    // ---- what was asked

    int ask(int set, int s, boolean concluded) {
        if (!areSayings(set) || !isSaying(s)) {
            return UNKNOWN;
        }
        if (asked.size() == 6) {
            return FULL;
        }
        asked.add(new Asked(setOf(set), s, concluded));
        return asked.size();
    }

    private List<TreeSet<Integer>> believedSets() {
        List<TreeSet<Integer>> sets = new ArrayList<>();
        for (int bits = 0; bits < 1 << rules.size(); bits++) {
            TreeSet<Integer> set = setOf(bits);
            if (asked.stream().allMatch(a -> from(a.from, set).contains(a.saying) == a.concluded)) {
                sets.add(set);
            }
        }
        return sets;
    }

    int believed(int what) {
        if (what < 0 || what > 2) {
            return OUTSIDE;
        }
        List<TreeSet<Integer>> sets = believedSets();
        if (what == 0) {
            return sets.size();
        }
        if (sets.isEmpty()) {
            return what == 1 ? NONE : 0;
        }
        TreeSet<Integer> sure = new TreeSet<>(sets.get(0));
        sets.forEach(sure::retainAll);
        return bits(what == 1 ? sets.get(0) : sure);
    }

    int askNext() {
        List<TreeSet<Integer>> sets = believedSets();
        List<TreeSet<Integer>> answers = new ArrayList<>();
        for (TreeSet<Integer> set : sets) {
            answers.add(from(state.seen, set));
        }
        int best = NONE;
        long bestPart = Long.MAX_VALUE;
        for (int s = 0; s < 2 * things; s++) {
            int saying = s;
            long yes = answers.stream().filter(a -> a.contains(saying)).count();
            long no = sets.size() - yes;
            if (yes > 0 && no > 0 && Math.max(yes, no) < bestPart) {
                bestPart = Math.max(yes, no);
                best = s;
            }
        }
        return best;
    }

    int write(int s, int follows) {
        if (!isSaying(s)) {
            return UNKNOWN;
        }
        if (follows != 0 && follows != 1) {
            return OUTSIDE;
        }
        if (book.size() == 15) {
            return FULL;
        }
        book.add(new int[] {s, follows});
        return book.size();
    }

    int tear() {
        int both = asked.size() + book.size();
        asked.clear();
        book.clear();
        return both;
    }

    int judge() {
        for (int[] entry : book) {
            if ((from(state.seen, free()).contains(entry[0]) ? 1 : 0) != entry[1]) {
                return book.indexOf(entry);
            }
        }
        return NONE;
    }

    // ---- draws, images

    int seed(int v) {
        if (v < 0) {
            return OUTSIDE;
        }
        int was = (int) seed;
        seed = v;
        return was;
    }

    int keep(int i) {
        if (i != 0 && i != 1) {
            return UNKNOWN;
        }
        images[i] = new Image(state.copy(), seed);
        past.clear();
        return 1;
    }

    int goBack(int i) {
        if (i != 0 && i != 1) {
            return UNKNOWN;
        }
        if (images[i] == null) {
            return NOT;
        }
        state = images[i].state.copy();
        seed = images[i].seed;
        past.clear();
        return 1;
    }
}
