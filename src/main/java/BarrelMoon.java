/**
 * A town of wise men who reason by rules; DOC.md tells every call as a numbered promise.
 * A SET is an int whose bit k stands for k.
 */
public final class BarrelMoon {
    public static final int NONE = -1, UNKNOWN = -1000000001, OUTSIDE = -1000000002, NOT = -1000000003, FULL = -1000000004;

    private static final int LETTER_MOST = 255;
    private static final int TEXT_MOST = 240;
    private static final int THINGS_MOST = 8;
    private static final int SAYINGS_MOST = 2 * THINGS_MOST;
    private static final int RULES_MOST = 10;
    private static final int NEEDS_MOST = 3;
    private static final int COST_MOST = 99;
    private static final int FIGURES_MOST = 3;
    private static final int WORDS_MOST = 3;
    private static final int ASKED_MOST = 6;
    private static final int BOOK_MOST = 15;
    private static final int UNDO_MOST = 20;
    private static final int IMAGES = 2;
    private static final int DEBATES_MOST = 9000;
    private static final int DAYS_MOST = 60;
    private static final int DEBATE_ODDS = 4;
    private static final int MEN_MOST = 9;
    private static final int HUNDRED = 100;
    private static final int BILLION = 1000000000;

    private static final int CANNOT_STAND = 1;
    private static final int BAD_NUMBER = 2;
    private static final int TOO_OFTEN = 3;
    private static final int TOLD_ALREADY = 4;
    private static final int FAULT_BASE = -10;

    private final TownReader reader = new TownReader();
    private final History history = new History();
    private final Questions questions = new Questions();
    private final Book book = new Book();
    private final Moment[] images = new Moment[IMAGES];
    private final int[] imageSeeds = new int[IMAGES];
    private final long[] voteParts = new long[MEN_MOST + 1];
    private final int[] yesCounts = new int[SAYINGS_MOST];
    private Town theTown = new Town();
    private Town draft = new Town();
    private Moment now = new Moment(0, 0, 0, 0);
    private int theSeed = 0;

    public BarrelMoon() {
    }

    // ---- the town

    public int feed(int letter) {
        if (letter < 0 || letter > LETTER_MOST) {
            return OUTSIDE;
        }
        return reader.append(letter) ? reader.length() : FULL;
    }

    public int town() {
        reader.readInto(draft);
        reader.forgetText();
        if (reader.faultKind() != 0) {
            return FAULT_BASE - reader.faultKind();
        }
        Town former = theTown;
        theTown = draft;
        draft = former;
        beginAnew();
        return theTown.rules;
    }

    private void beginAnew() {
        now = new Moment(theTown.seenAtFirst, 0, 0, 0);
        history.clear();
        questions.clear();
        book.clear();
        for (int i = 0; i < IMAGES; i++) {
            images[i] = null;
        }
    }

    public int fault() {
        return reader.faultAt();
    }

    public int told(int what) {
        switch (what) {
            case 0: return theTown.things;
            case 1: return theTown.rules;
            case 2: return reader.length();
            case 3: return now.seen;
            case 4: return now.held;
            case 5: return now.forbidden;
            case 6: return now.debates;
            case 7: return trialNow().conclusions();
            case 8: return theTown.quarrelsIn(trialNow().conclusions());
            case 9: return theTown.quarrelsIn(now.held);
            case 10: return questions.size();
            case 11: return book.size();
            case 12: return history.size();
            default: return OUTSIDE;
        }
    }

    public int rule(int r, int what) {
        if (!theTown.hasRule(r)) {
            return UNKNOWN;
        }
        switch (what) {
            case 0: return theTown.cost[r];
            case 1: return theTown.concludes[r];
            case 2: return theTown.needs[r];
            case 3: return has(now.forbidden, r) ? 1 : 0;
            default: return OUTSIDE;
        }
    }

    // ---- what is done

    public int see(int s, boolean is) {
        if (!theTown.hasSaying(s)) {
            return UNKNOWN;
        }
        int was = has(now.seen, s) ? 1 : 0;
        change(new Moment(put(now.seen, s, is), now.held, now.forbidden, now.debates));
        return was;
    }

    public int forbid(int r, boolean is) {
        if (!theTown.hasRule(r)) {
            return UNKNOWN;
        }
        int was = has(now.forbidden, r) ? 1 : 0;
        change(new Moment(now.seen, now.held, put(now.forbidden, r, is), now.debates));
        return was;
    }

    public int debate() {
        if (theTown.isNone()) {
            return NOT;
        }
        if (now.debates > DEBATES_MOST) {
            return FULL;
        }
        int held = theTown.closure(now.seen | now.held, rulesGoneBy());
        change(new Moment(now.seen, held, now.forbidden, now.debates + 1));
        return held;
    }

    public int drop() {
        if (theTown.isNone()) {
            return NOT;
        }
        int was = now.held;
        change(new Moment(now.seen, 0, now.forbidden, now.debates));
        return was;
    }

    public int drift(int n) {
        if (n < 1 || n > DAYS_MOST) {
            return OUTSIDE;
        }
        if (theTown.isNone()) {
            return NOT;
        }
        if (now.debates > DEBATES_MOST) {
            return FULL;
        }
        int seen = now.seen;
        int held = now.held;
        int debates = now.debates;
        for (int day = 0; day < n; day++) {
            int s = draw(theTown.sayings());
            seen = put(put(seen, s, true), denialOf(s), false);
            if (draw(DEBATE_ODDS) == 0) {
                held = theTown.closure(seen | held, rulesGoneBy());
                debates++;
            }
        }
        change(new Moment(seen, held, now.forbidden, debates));
        return seen;
    }

    public int undo() {
        Moment before = history.takeLatest();
        if (before == null) {
            return NOT;
        }
        now = before;
        return history.size();
    }

    private void change(Moment next) {
        history.add(now);
        now = next;
    }

    // ---- tried

    public int follows(int set) {
        if (!theTown.hasSayings(set)) {
            return UNKNOWN;
        }
        return theTown.closure(set, rulesGoneBy());
    }

    public int proof(int s, int what) {
        if (!theTown.hasSaying(s)) {
            return UNKNOWN;
        }
        if (what < 0 || what > 1) {
            return OUTSIDE;
        }
        int rules = trialNow().leastProof(s);
        return what == 0 && rules != NONE ? Integer.bitCount(rules) : rules;
    }

    public int giveUp(int what) {
        if (what < 0 || what > 1) {
            return OUTSIDE;
        }
        int rules = trialNow().cheapestPeace();
        return what == 1 && rules != NONE ? theTown.costOf(rules) : rules;
    }

    public int words(int s) {
        return theTown.hasSaying(s) ? trialNow().fewestWords(s) : UNKNOWN;
    }

    public int step(int s) {
        return theTown.hasSaying(s) ? trialNow().neededRules(s) : UNKNOWN;
    }

    public int barred(int s) {
        return theTown.hasSaying(s) ? trialNow().fewestBars(s) : UNKNOWN;
    }

    public int never() {
        return theTown.allSayings() & ~theTown.concludedBy(rulesGoneBy());
    }

    public int round() {
        return trialNow().circles();
    }

    public int vote(int n, int q) {
        if (n < 1 || n > MEN_MOST || q < 0 || q > HUNDRED) {
            return OUTSIDE;
        }
        shareVotes(n, q);
        long odds = 0;
        for (int yes = n / 2 + 1; yes <= n; yes++) {
            odds += voteParts[yes];
        }
        return (int) odds;
    }

    private void shareVotes(int n, int q) {
        for (int yes = 0; yes <= MEN_MOST; yes++) {
            voteParts[yes] = 0;
        }
        voteParts[0] = BILLION;
        for (int man = 0; man < n; man++) {
            // From above down, so that what moves up is not moved twice by one man.
            for (int yes = man; yes >= 0; yes--) {
                long more = voteParts[yes] * q / HUNDRED;
                voteParts[yes + 1] += more;
                voteParts[yes] -= more;
            }
        }
    }

    // ---- what was asked

    public int ask(int set, int s, boolean concluded) {
        if (!theTown.hasSayings(set) || !theTown.hasSaying(s)) {
            return UNKNOWN;
        }
        return questions.add(set, s, concluded) ? questions.size() : FULL;
    }

    public int believed(int what) {
        if (what < 0 || what > 2) {
            return OUTSIDE;
        }
        int count = 0;
        int least = NONE;
        int sure = theTown.allRules();
        for (int rules = 0; rules <= theTown.allRules(); rules++) {
            if (questions.fit(theTown, rules)) {
                least = count == 0 ? rules : least;
                sure &= rules;
                count++;
            }
        }
        if (what == 0) {
            return count;
        }
        if (what == 1) {
            return least;
        }
        return count == 0 ? 0 : sure;
    }

    public int askNext() {
        int total = countAnswers();
        int best = NONE;
        int leastAlike = total;
        for (int s = 0; s < theTown.sayings(); s++) {
            int alike = Math.max(yesCounts[s], total - yesCounts[s]);
            if (alike < leastAlike) {
                leastAlike = alike;
                best = s;
            }
        }
        return best;
    }

    /** Counts, for each SAYING, the BELIEVED sets by which it follows from SEEN; answers how many sets there are. */
    private int countAnswers() {
        for (int s = 0; s < SAYINGS_MOST; s++) {
            yesCounts[s] = 0;
        }
        int total = 0;
        for (int rules = 0; rules <= theTown.allRules(); rules++) {
            if (questions.fit(theTown, rules)) {
                countYes(theTown.closure(now.seen, rules));
                total++;
            }
        }
        return total;
    }

    private void countYes(int conclusions) {
        for (int s = 0; s < SAYINGS_MOST; s++) {
            if (has(conclusions, s)) {
                yesCounts[s]++;
            }
        }
    }

    public int write(int s, int follows) {
        if (!theTown.hasSaying(s)) {
            return UNKNOWN;
        }
        if (follows < 0 || follows > 1) {
            return OUTSIDE;
        }
        return book.add(s, follows == 1) ? book.size() : FULL;
    }

    public int tear() {
        int both = questions.size() + book.size();
        questions.clear();
        book.clear();
        return both;
    }

    public int judge() {
        return book.firstWrong(trialNow().conclusions());
    }

    // ---- draws, images

    public int seed(int v) {
        if (v < 0) {
            return OUTSIDE;
        }
        int was = theSeed;
        theSeed = v;
        return was;
    }

    public int keep(int i) {
        if (i < 0 || i >= IMAGES) {
            return UNKNOWN;
        }
        images[i] = now;
        imageSeeds[i] = theSeed;
        history.clear();
        return 1;
    }

    public int goBack(int i) {
        if (i < 0 || i >= IMAGES) {
            return UNKNOWN;
        }
        Moment kept = images[i];
        if (kept == null) {
            return NOT;
        }
        now = kept;
        theSeed = imageSeeds[i];
        history.clear();
        return 1;
    }

    private int draw(int n) {
        theSeed = (int) ((theSeed * 1103515245L + 12345L) & 0x7fffffffL);
        return n > 0 ? theSeed / 65536 % n : 0;
    }

    private int rulesGoneBy() {
        return theTown.allRules() & ~now.forbidden;
    }

    private Trial trialNow() {
        return new Trial(theTown, now.seen, rulesGoneBy());
    }

    private static boolean has(int set, int k) {
        return (set >> k & 1) != 0;
    }

    private static int put(int set, int k, boolean is) {
        return is ? set | 1 << k : set & ~(1 << k);
    }

    private static int denialOf(int s) {
        return s ^ 1;
    }

    /** What is so at one time. It never changes, so undoing and images need no copies. */
    private static final class Moment {
        final int seen;
        final int held;
        final int forbidden;
        final int debates;

        Moment(int seen, int held, int forbidden, int debates) {
            this.seen = seen;
            this.held = held;
            this.forbidden = forbidden;
            this.debates = debates;
        }
    }

    /** What can be undone, the oldest first. */
    private static final class History {
        private final Moment[] moments = new Moment[UNDO_MOST];
        private int count = 0;

        int size() {
            return count;
        }

        void clear() {
            count = 0;
        }

        void add(Moment moment) {
            if (count >= UNDO_MOST) {
                loseOldest();
            }
            moments[count] = moment;
            count++;
        }

        private void loseOldest() {
            for (int i = 1; i < UNDO_MOST; i++) {
                moments[i - 1] = moments[i];
            }
            count = UNDO_MOST - 1;
        }

        /** The latest, which is taken out; null: there is none. */
        Moment takeLatest() {
            if (count < 1) {
                return null;
            }
            count--;
            return moments[count];
        }
    }

    /** THINGS and RULES, and what the text said is SEEN. Without THINGS it is no TOWN. */
    private static final class Town {
        final int[] cost = new int[RULES_MOST];
        final int[] concludes = new int[RULES_MOST];
        final int[] needs = new int[RULES_MOST];
        int things = 0;
        int rules = 0;
        int seenAtFirst = 0;

        void clear() {
            things = 0;
            rules = 0;
            seenAtFirst = 0;
        }

        boolean isNone() {
            return things == 0;
        }

        boolean isFull() {
            return rules >= RULES_MOST;
        }

        void addRule(int price, int conclusion, int premises) {
            if (isFull()) {
                return;
            }
            cost[rules] = price;
            concludes[rules] = conclusion;
            needs[rules] = premises;
            rules++;
        }

        int sayings() {
            return 2 * things;
        }

        int allSayings() {
            return (1 << sayings()) - 1;
        }

        int allRules() {
            return (1 << rules) - 1;
        }

        boolean hasSaying(int s) {
            return s >= 0 && s < sayings();
        }

        boolean hasSayings(int set) {
            return (set & ~allSayings()) == 0;
        }

        boolean hasRule(int r) {
            return r >= 0 && r < rules;
        }

        /** What FOLLOWS from a set by these rules alone. */
        int closure(int set, int by) {
            int so = set;
            int waiting = by & allRules();
            // Each pass but the last takes a rule away from those that wait, so it ends by itself.
            for (int pass = 0; pass < RULES_MOST && waiting != 0; pass++) {
                int before = waiting;
                for (int r = 0; r < rules; r++) {
                    if ((waiting >> r & 1) != 0 && (needs[r] & ~so) == 0) {
                        so |= 1 << concludes[r];
                        waiting &= ~(1 << r);
                    }
                }
                if (waiting == before) {
                    break;
                }
            }
            return so;
        }

        int quarrelsIn(int set) {
            int quarrels = 0;
            for (int thing = 0; thing < things; thing++) {
                if (has(set, 2 * thing) && has(set, 2 * thing + 1)) {
                    quarrels |= 1 << thing;
                }
            }
            return quarrels;
        }

        int costOf(int set) {
            int sum = 0;
            for (int r = 0; r < rules; r++) {
                sum += has(set, r) ? cost[r] : 0;
            }
            return sum;
        }

        int concludedBy(int set) {
            int sayings = 0;
            for (int r = 0; r < rules; r++) {
                sayings |= has(set, r) ? 1 << concludes[r] : 0;
            }
            return sayings;
        }
    }

    /** THE TEXT, and how it is read up to its first FAULT. */
    private static final class TownReader {
        private static final int END = -1;
        private static final int BLANK = 32;

        private final int[] letters = new int[TEXT_MOST];
        private int length = 0;
        private int at = 0;
        private int numberAt = 0;
        private int faultKind = 0;
        private int faultAt = NONE;

        boolean append(int letter) {
            if (length >= TEXT_MOST) {
                return false;
            }
            letters[length] = letter;
            length++;
            return true;
        }

        int length() {
            return length;
        }

        void forgetText() {
            length = 0;
        }

        /** 0: the latest text had none. */
        int faultKind() {
            return faultKind;
        }

        int faultAt() {
            return faultAt;
        }

        void readInto(Town draft) {
            at = 0;
            faultKind = 0;
            faultAt = NONE;
            draft.clear();
            // Blanks may stand anywhere, so a text of blanks alone is read as an empty one.
            if (peek() == END) {
                return;
            }
            readThings(draft);
            // A clause has a letter at least, so there are no more of them than letters.
            for (int clause = 0; clause < TEXT_MOST && faultKind == 0 && peek() != END; clause++) {
                readClause(draft);
            }
        }

        private void readThings(Town draft) {
            if (!take('t')) {
                return;
            }
            int things = number(1, THINGS_MOST);
            if (things != NONE && take(';')) {
                draft.things = things;
            }
        }

        private void readClause(Town draft) {
            int word = peek();
            if (word == 't' || word == 'r' && draft.isFull()) {
                stop(TOO_OFTEN, at);
            } else if (word == 'r') {
                at++;
                readRule(draft);
            } else if (word == 's') {
                at++;
                readSeen(draft);
            } else {
                stop(CANNOT_STAND, at);
            }
        }

        private void readRule(Town draft) {
            int price = number(0, COST_MOST);
            if (price == NONE) {
                return;
            }
            int conclusion = number(0, draft.sayings() - 1);
            if (conclusion == NONE) {
                return;
            }
            int premises = readPremises(draft, conclusion);
            if (premises != NONE && take(';')) {
                draft.addRule(price, conclusion, premises);
            }
        }

        /** The SAYINGS S as a SET; a ',' behind the third is left standing. */
        private int readPremises(Town draft, int conclusion) {
            int premises = 0;
            for (int i = 0; i < NEEDS_MOST && peek() == ','; i++) {
                at++;
                int s = number(0, draft.sayings() - 1);
                if (s == NONE) {
                    return NONE;
                }
                if (s == conclusion || has(premises, s)) {
                    stop(TOLD_ALREADY, numberAt);
                    return NONE;
                }
                premises |= 1 << s;
            }
            return premises;
        }

        private void readSeen(Town draft) {
            int s = number(0, draft.sayings() - 1);
            if (s == NONE) {
                return;
            }
            if (has(draft.seenAtFirst, s)) {
                stop(TOLD_ALREADY, numberAt);
                return;
            }
            if (take(';')) {
                draft.seenAtFirst |= 1 << s;
            }
        }

        /** A NUMBER within its bounds; NONE: there was a FAULT. */
        private int number(int least, int most) {
            if (!isFigure(peek())) {
                stop(CANNOT_STAND, at);
                return NONE;
            }
            numberAt = at;
            int value = 0;
            while (at < length && isFigure(letters[at])) {
                // Cut off at 1000, which is out of all bounds, so that no row of figures overflows.
                value = Math.min(value * 10 + letters[at] - '0', 1000);
                at++;
            }
            if (at - numberAt > FIGURES_MOST || value < least || value > most) {
                stop(BAD_NUMBER, numberAt);
                return NONE;
            }
            return value;
        }

        private static boolean isFigure(int letter) {
            return letter >= '0' && letter <= '9';
        }

        private boolean take(int word) {
            if (peek() != word) {
                stop(CANNOT_STAND, at);
                return false;
            }
            at++;
            return true;
        }

        /** The next letter that is no blank, where the reading then stands; END behind the last. */
        private int peek() {
            while (at < length && letters[at] == BLANK) {
                at++;
            }
            return at < length ? letters[at] : END;
        }

        private void stop(int kind, int where) {
            faultKind = kind;
            faultAt = where;
        }
    }

    /** All that is TRIED from one SEEN by the rules that are gone by. */
    private static final class Trial {
        private final Town town;
        private final int seen;
        private final int allowed;

        Trial(Town town, int seen, int allowed) {
            this.town = town;
            this.seen = seen;
            this.allowed = allowed;
        }

        int conclusions() {
            return town.closure(seen, allowed);
        }

        private boolean concludesBy(int rules, int s) {
            return has(town.closure(seen, rules), s);
        }

        int leastProof(int s) {
            if (!concludesBy(allowed, s)) {
                return NONE;
            }
            int best = allowed;
            int fewest = RULES_MOST + 1;
            for (int rules = 0; rules <= allowed; rules++) {
                int count = Integer.bitCount(rules);
                if (isAllowed(rules) && count < fewest && concludesBy(rules, s)) {
                    best = rules;
                    fewest = count;
                }
            }
            return best;
        }

        int cheapestPeace() {
            if (town.quarrelsIn(seen) != 0) {
                return NONE;
            }
            int best = allowed;
            int least = RULES_MOST * COST_MOST + 1;
            for (int rules = 0; rules <= allowed; rules++) {
                if (isAllowed(rules) && town.costOf(rules) < least && isPeaceWithout(rules)) {
                    best = rules;
                    least = town.costOf(rules);
                }
            }
            return best;
        }

        private boolean isPeaceWithout(int rules) {
            return town.quarrelsIn(town.closure(seen, allowed & ~rules)) == 0;
        }

        int fewestWords(int s) {
            for (int count = 0; count <= WORDS_MOST; count++) {
                int found = leastWords(this, s, count, town.sayings(), 0);
                if (found != NONE) {
                    return found;
                }
            }
            return NONE;
        }

        /** The least SET that has what is chosen and count SAYINGS more, all under a bound; NONE. */
        private static int leastWords(Trial trial, int s, int count, int bound, int chosen) {
            if (count <= 0) {
                return trial.bringTo(s, chosen) ? chosen : NONE;
            }
            // The highest word goes up slowest: so the first that is found is the least SET.
            for (int word = count - 1; word < bound; word++) {
                if (word != s && word != denialOf(s)) {
                    int found = leastWords(trial, s, count - 1, word, chosen | 1 << word);
                    if (found != NONE) {
                        return found;
                    }
                }
            }
            return NONE;
        }

        private boolean bringTo(int s, int words) {
            int so = town.closure(seen | words, allowed);
            return has(so, s) && town.quarrelsIn(so) == 0;
        }

        int neededRules(int s) {
            if (!concludesBy(allowed, s)) {
                return 0;
            }
            int needed = 0;
            for (int r = 0; r < town.rules; r++) {
                if (!concludesBy(put(allowed, r, false), s)) {
                    needed |= 1 << r;
                }
            }
            return needed;
        }

        int fewestBars(int s) {
            if (has(seen, s)) {
                return NONE;
            }
            int best = allowed;
            int fewest = RULES_MOST + 1;
            for (int rules = 0; rules <= allowed; rules++) {
                int count = Integer.bitCount(rules);
                if (isAllowed(rules) && count < fewest && !concludesBy(allowed & ~rules, s)) {
                    best = rules;
                    fewest = count;
                }
            }
            return best;
        }

        int circles() {
            int round = 0;
            for (int s = 0; s < town.sayings(); s++) {
                round |= returnsTo(s) ? 1 << s : 0;
            }
            return round;
        }

        private boolean returnsTo(int s) {
            int so = town.closure(1 << s, allowed);
            for (int r = 0; r < town.rules; r++) {
                if (has(allowed, r) && town.concludes[r] == s && (town.needs[r] & ~so) == 0) {
                    return true;
                }
            }
            return false;
        }

        private boolean isAllowed(int rules) {
            return (rules & ~allowed) == 0;
        }
    }

    /** What was ASKED, and which rules fit to it. */
    private static final class Questions {
        private final int[] sets = new int[ASKED_MOST];
        private final int[] sayings = new int[ASKED_MOST];
        private final boolean[] concluded = new boolean[ASKED_MOST];
        private int count = 0;

        int size() {
            return count;
        }

        void clear() {
            count = 0;
        }

        boolean add(int set, int s, boolean answer) {
            if (count >= ASKED_MOST) {
                return false;
            }
            sets[count] = set;
            sayings[count] = s;
            concluded[count] = answer;
            count++;
            return true;
        }

        /** Whether by these rules alone all that was ASKED is so. */
        boolean fit(Town town, int rules) {
            for (int i = 0; i < count; i++) {
                if (has(town.closure(sets[i], rules), sayings[i]) != concluded[i]) {
                    return false;
                }
            }
            return true;
        }
    }

    /** THE BOOK: whether SAYINGS follow. */
    private static final class Book {
        private final int[] sayings = new int[BOOK_MOST];
        private final boolean[] follow = new boolean[BOOK_MOST];
        private int count = 0;

        int size() {
            return count;
        }

        void clear() {
            count = 0;
        }

        boolean add(int s, boolean does) {
            if (count >= BOOK_MOST) {
                return false;
            }
            sayings[count] = s;
            follow[count] = does;
            count++;
            return true;
        }

        int firstWrong(int conclusions) {
            for (int i = 0; i < count; i++) {
                if (has(conclusions, sayings[i]) != follow[i]) {
                    return i;
                }
            }
            return NONE;
        }
    }
}
