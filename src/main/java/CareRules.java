import java.util.Arrays;

/**
 * What a wrong should cost: the promises of ../shared/DOC.md, in the part of Java that ../shared/LANGUAGE.md leaves.
 *
 * Inside, DOINGS are a CELL: ten bits, CARE of 0 (3), CARE of 1 (3), GOING of 0 (2), GOING of 1 (2), so that cells
 * are in the order of the numbers that tell DOINGS, and can stand for places in rows.
 */
public final class CareRules {
    // Findings, as the places at which status() counts them.
    private static final int BEYOND = 0;
    private static final int FULL = 1;
    private static final int KIND = 2;
    private static final int NONE = 3;
    private static final int STATE = 4;
    private static final int MISSING = 5;
    private static final int SIZE = 6;
    private static final int FINDINGS = 7;
    private static final int FIRST_FINDING = -1000000001;

    // Limits of the document.
    private static final int MOST_CARES = 8;
    private static final int MOST_GOINGS = 4;
    private static final int MOST_PRICE = 999;
    private static final int MOST_GAIN = 9999;
    private static final int MOST_BYTES = 120;
    private static final int MOST_NUMBER = 9999;
    private static final int MOST_OPEN = 8;
    private static final int MOST_HURT = 9999;
    private static final int MOST_RULES = 20;
    private static final int MOST_BAR = 8;
    private static final int MOST_OFFER = 99999;
    private static final int MOST_SHIFT = 64;
    private static final int MANY = 8;
    private static final int MOST_WEIGHT = 99;
    private static final int MOST_NEEDED = 9999;
    private static final int SHEETS = 4;
    private static final int MOST_ROW = 40;

    // Kinds of RULES.
    private static final int PLAIN_RULE = 0;
    private static final int STRICT_RULE = 1;
    private static final int CARE_RULE = 2;
    private static final int PARTS_RULE = 3;
    private static final int TURNED_RULE = 4;
    private static final int COVER_RULE = 5;
    private static final int TOLD_RULE = 6;

    // What set() sets, with the least and the most that each may be.
    private static final int WRONG = 0;
    private static final int PURSE = 1;
    private static final int LAW_OF_DOER = 2;
    private static final int LAW_OF_OTHER = 3;
    private static final int SHIFT = 4;
    private static final int[] LEAST_SETTINGS = {0, 0, 0, 0, -MOST_SHIFT};
    private static final int[] MOST_SETTINGS = {8, 9999, 9999, 9999, MOST_SHIFT};

    // All cells; all CARES with GOINGS of one; all CARES of 0 with CARES of 1.
    private static final int CELLS = 1024;
    private static final int OWNS = 32;
    private static final int PAIRS = 64;

    // CHANCES and DUES are in 64ths, what is SEEN in 8ths; a COST is in 64ths of 64ths of 8ths.
    private static final int WHOLE = 64;
    private static final int EIGHTHS = 8;
    private static final int WHOLE_BILL = WHOLE * EIGHTHS;
    private static final int WHOLE_COST = WHOLE * WHOLE_BILL;
    // Greater than any COST.
    private static final long ABOVE_ALL = 1L << 62;

    private final State now;
    private final State kept;
    private boolean keeping;
    private final Tape tape;
    private final TextReader reader;
    private final Field field;
    private final Bills bills;
    private final Bills otherBills;
    private final Play play;
    private final Rule trial;
    private final Sheet[] sheets;
    private final int[] findings;

    public CareRules() {
        now = new State();
        kept = new State();
        keeping = false;
        tape = new Tape();
        reader = new TextReader(tape);
        field = new Field();
        bills = new Bills();
        otherBills = new Bills();
        play = new Play();
        trial = new Rule();
        sheets = new Sheet[SHEETS];
        for (int s = 0; s < sheets.length; s++) {
            sheets[s] = new Sheet();
        }
        findings = new int[FINDINGS];
    }

    // ---- cares, goings, texts

    public int care(int who, int price) {
        if (!isOneOfTwo(who) || !isWithin(price, 0, MOST_PRICE)) {
            return finding(BEYOND);
        }
        int number = now.cares[who];
        if (number >= MOST_CARES) {
            return finding(FULL);
        }
        now.prices[who][number] = price;
        now.cares[who] = number + 1;
        return number;
    }

    public int going(int who, int gain) {
        if (!isOneOfTwo(who) || !isWithin(gain, 0, MOST_GAIN)) {
            return finding(BEYOND);
        }
        int number = now.goings[who];
        if (number >= MOST_GOINGS) {
            return finding(FULL);
        }
        now.gains[who][number] = gain;
        now.goings[who] = number + 1;
        return number;
    }

    public int feed(int bytes, int n) {
        if (!isWithin(n, 1, 4)) {
            return finding(BEYOND);
        }
        if (tape.size + n > MOST_BYTES) {
            return finding(FULL);
        }
        for (int i = n - 1; i >= 0; i--) {
            tape.append(bytes >>> (8 * i) & 255);
        }
        return tape.size;
    }

    public int wipe() {
        return tape.empty();
    }

    public int harm() {
        Harm found = reader.readHarm();
        if (found == null) {
            return -1 - reader.fault();
        }
        now.harm = found;
        tape.empty();
        return 1;
    }

    public int hurt(int doings, int what) {
        int cell = now.cellAt(doings);
        if (cell < 0 || !isWithin(what, 0, 1)) {
            return finding(BEYOND);
        }
        field.prepare(now);
        return what == 0 ? field.chanceAt(cell, now.settings[SHIFT]) : field.hurts[cell];
    }

    // ---- rules

    public int rule(int kind, int a, int b) {
        if (!fitsKind(kind, a, b)) {
            return finding(BEYOND);
        }
        if (now.ruleCount >= MOST_RULES) {
            return finding(FULL);
        }
        Rule made = new Rule();
        if (kind == PARTS_RULE) {
            made.beOfBars(kind, a / 10, a % 10, b);
        } else {
            made.beOfBars(kind, a, 0, 0);
        }
        return now.append(made);
    }

    public int cover(int rule, int part) {
        Rule covered = now.ruleAt(rule);
        if (covered == null || !isWithin(part, 0, EIGHTHS)) {
            return finding(BEYOND);
        }
        if (now.ruleCount >= MOST_RULES) {
            return finding(FULL);
        }
        Rule made = new Rule();
        made.beCover(covered, rule, part);
        return now.append(made);
    }

    public int told() {
        if (now.ruleCount >= MOST_RULES) {
            return finding(FULL);
        }
        Text text = reader.readTold();
        if (text == null) {
            return -1 - reader.fault();
        }
        Rule made = new Rule();
        made.beTold(text, field.stack);
        tape.empty();
        return now.append(made);
    }

    public int of(int rule, int what) {
        Rule asked = now.ruleAt(rule);
        if (asked == null || !isWithin(what, 0, 5)) {
            return finding(BEYOND);
        }
        if (!asked.has(what)) {
            return finding(KIND);
        }
        return asked.tell(what);
    }

    public int as(int rule, int kind) {
        Rule asked = now.ruleAt(rule);
        if (asked == null || !isWithin(kind, PLAIN_RULE, TOLD_RULE)) {
            return finding(BEYOND);
        }
        return asked.isUnder(kind) ? rule : finding(KIND);
    }

    public int due(int rule, int seen, int other, int whose) {
        Rule asked = now.ruleAt(rule);
        if (asked == null || !isCare(seen) || !isCare(other) || (whose != 0 && whose != 2)) {
            return finding(BEYOND);
        }
        int pair = pairOf(seen, other);
        return whose == 0 ? asked.dues[pair] : asked.thirdDues[pair];
    }

    public int set(int what, int v) {
        if (!isWithin(what, WRONG, SHIFT) || !isWithin(v, LEAST_SETTINGS[what], MOST_SETTINGS[what])) {
            return finding(BEYOND);
        }
        int was = now.settings[what];
        now.settings[what] = v;
        return was;
    }

    // ---- costs, the best

    public long cost(int rule, int doings, int who) {
        Rule asked = now.ruleAt(rule);
        int cell = now.cellAt(doings);
        if (asked == null || cell < 0 || !isWithin(who, 0, 3)) {
            return finding(BEYOND);
        }
        field.prepare(now);
        bills.enter(now, asked, cell, field.hurts[cell]);
        return who == 3 ? totalAt(cell) : costAt(cell, who);
    }

    public long plain(int doings) {
        int cell = now.cellAt(doings);
        if (cell < 0) {
            return finding(BEYOND);
        }
        field.prepare(now);
        return field.plainAt(now, cell);
    }

    public long least() {
        if (!now.isPeopled()) {
            return finding(STATE);
        }
        field.prepare(now);
        return field.plainAt(now, field.firstBest(now));
    }

    public int best(int i) {
        if (!now.isPeopled()) {
            return finding(STATE);
        }
        if (i < -1) {
            return finding(BEYOND);
        }
        field.prepare(now);
        int count = 0;
        long least = field.plainAt(now, field.firstBest(now));
        for (int k = 0; k < field.count; k++) {
            if (field.plainAt(now, field.cells[k]) == least) {
                if (count == i) {
                    return doingsOf(field.cells[k]);
                }
                count++;
            }
        }
        return i == -1 ? count : finding(NONE);
    }

    // ---- what they do

    public int answer(int rule, int who, int doings) {
        Rule asked = now.ruleAt(rule);
        int cell = now.cellAt(doings);
        if (asked == null || !isOneOfTwo(who) || cell < 0) {
            return finding(BEYOND);
        }
        field.prepare(now);
        int answered = answerAt(asked, who, cell);
        return 10 * careOf(answered, who) + goingOf(answered, who);
    }

    public int rest(int rule, int i) {
        Rule asked = now.ruleAt(rule);
        if (asked == null) {
            return finding(BEYOND);
        }
        if (!now.isPeopled()) {
            return finding(STATE);
        }
        if (i < -1) {
            return finding(BEYOND);
        }
        playBy(asked);
        if (i == -1) {
            return play.restCount;
        }
        return i < play.restCount ? doingsOf(play.rests[i]) : finding(NONE);
    }

    public int judge(int rule, int doings) {
        Rule asked = now.ruleAt(rule);
        int cell = now.cellAt(doings);
        if (asked == null || cell < 0) {
            return finding(BEYOND);
        }
        field.prepare(now);
        return (couldDoBetter(asked, 0, cell) ? 1 : 0) | (couldDoBetter(asked, 1, cell) ? 2 : 0);
    }

    public long lost(int rule, int i) {
        int refused = refusalOfRest(rule, i);
        if (refused != FINDINGS) {
            return finding(refused);
        }
        return totalAt(play.rests[i]) - field.plainAt(now, field.firstBest(now));
    }

    public int how(int rule, int i) {
        int refused = refusalOfRest(rule, i);
        if (refused != FINDINGS) {
            return finding(refused);
        }
        int rest = play.rests[i];
        int best = field.firstBest(now);
        int unlike = 0;
        for (int who = 0; who < 2; who++) {
            if (careOf(rest, who) != careOf(best, who)) {
                unlike |= 1 << who;
            }
            if (goingOf(rest, who) != goingOf(best, who)) {
                unlike |= 4 << who;
            }
        }
        return unlike;
    }

    public long worst(int rule) {
        Rule asked = now.ruleAt(rule);
        if (asked == null) {
            return finding(BEYOND);
        }
        if (!now.isPeopled()) {
            return finding(STATE);
        }
        playBy(asked);
        if (play.restCount == 0) {
            return finding(NONE);
        }
        return play.greatestTotal - field.plainAt(now, field.firstBest(now));
    }

    public int find(int kind) {
        if (kind != CARE_RULE && kind != TURNED_RULE) {
            return finding(BEYOND);
        }
        if (!now.isPeopled()) {
            return finding(STATE);
        }
        int found = -1;
        long least = ABOVE_ALL;
        for (int bar = 0; bar <= MOST_BAR; bar++) {
            trial.beOfBars(kind, bar, 0, 0);
            playBy(trial);
            if (play.greatestTotal < least) {
                least = play.greatestTotal;
                found = bar;
            }
        }
        return found < 0 ? finding(NONE) : found;
    }

    // ---- laws, talks, suits

    public int keeps(int rule, int law) {
        Rule asked = now.ruleAt(rule);
        if (asked == null || !isWithin(law, 0, 2)) {
            return finding(BEYOND);
        }
        if (!now.isPeopled()) {
            return finding(STATE);
        }
        return firstBreach(asked, law) < 0 ? 1 : 0;
    }

    public int breach(int rule, int law) {
        Rule asked = now.ruleAt(rule);
        if (asked == null || !isWithin(law, 0, 2)) {
            return finding(BEYOND);
        }
        if (!now.isPeopled()) {
            return finding(STATE);
        }
        int pair = firstBreach(asked, law);
        return pair < 0 ? finding(NONE) : 10 * (pair >> 3) + (pair & 7);
    }

    public int agree(int rule) {
        Rule asked = now.ruleAt(rule);
        if (asked == null) {
            return finding(BEYOND);
        }
        if (!now.isPeopled()) {
            return finding(STATE);
        }
        playBy(asked);
        return doingsOf(play.cheapest(field));
    }

    public long talk(int rule) {
        Rule asked = now.ruleAt(rule);
        if (asked == null) {
            return finding(BEYOND);
        }
        if (!now.isPeopled()) {
            return finding(STATE);
        }
        playBy(asked);
        return totalAt(play.cheapest(field)) - field.plainAt(now, field.firstBest(now));
    }

    public int settle(int rule, int doings, int x) {
        Rule asked = now.ruleAt(rule);
        int cell = now.cellAt(doings);
        if (asked == null || cell < 0 || !isWithin(x, 0, MOST_OFFER)) {
            return finding(BEYOND);
        }
        field.prepare(now);
        int hurt = field.hurts[cell];
        int pair = pairOf(careOf(cell, 0), careOf(cell, 1));
        if (!asked.isSued(pair, hurt, now.settings[LAW_OF_OTHER])) {
            return 0;
        }
        long paid = asked.paidByDoer(pair, hurt, now.settings[PURSE]) + asked.thirdDues[pair] * hurt;
        long offer = (long) WHOLE * x;
        boolean suitsOther = offer >= paid - WHOLE * now.settings[LAW_OF_OTHER];
        boolean suitsDoer = offer <= paid + WHOLE * now.settings[LAW_OF_DOER];
        return suitsOther && suitsDoer ? 1 : 2;
    }

    public int edge(int a, int b) {
        Rule one = now.ruleAt(a);
        Rule two = now.ruleAt(b);
        if (one == null || two == null) {
            return finding(BEYOND);
        }
        if (!now.isPeopled()) {
            return finding(STATE);
        }
        field.prepare(now);
        bills.fill(now, field, one);
        otherBills.fill(now, field, two);
        int shift = now.settings[SHIFT];
        int here = better(shift);
        for (int far = 1; far <= 2 * MOST_SHIFT; far++) {
            if (shift - far >= -MOST_SHIFT && better(shift - far) != here) {
                return shift - far;
            }
            if (shift + far <= MOST_SHIFT && better(shift + far) != here) {
                return shift + far;
            }
        }
        return finding(NONE);
    }

    // ---- many

    public int many(int k, int v) {
        if (!isWithin(k, 0, MANY - 1) || !isWithin(v, 0, MOST_WEIGHT)) {
            return finding(BEYOND);
        }
        int was = now.weights[k];
        now.weights[k] = v;
        return was;
    }

    public int whose(int set, int k) {
        if (!isSetOfMany(set) || !isWithin(k, 1, MOST_NEEDED)) {
            return finding(BEYOND);
        }
        int together = now.weightOf(set);
        if (together < k) {
            return finding(STATE);
        }
        int needed = 0;
        for (int one = 0; one < MANY; one++) {
            if (isIn(set, one) && together - now.weights[one] < k) {
                needed |= 1 << one;
            }
        }
        return needed;
    }

    public int part(int set, int n, int one) {
        if (!isSetOfMany(set) || !isWithin(n, 0, MOST_HURT) || !isIn(set, one)) {
            return finding(BEYOND);
        }
        int together = now.weightOf(set);
        if (together == 0) {
            return finding(STATE);
        }
        int left = n;
        int first = -1;
        for (int k = 0; k < MANY; k++) {
            if (isIn(set, k) && now.weights[k] > 0) {
                left -= n * now.weights[k] / together;
                first = first < 0 ? k : first;
            }
        }
        return n * now.weights[one] / together + (one == first ? left : 0);
    }

    // ---- sheets

    public int sheet(int s, int bits, int n) {
        if (!isSheet(s) || (bits != 0 && bits != 8 && bits != 16 && bits != 64)) {
            return finding(BEYOND);
        }
        if (n < 0) {
            return finding(SIZE);
        }
        if (n > MOST_ROW) {
            return finding(BEYOND);
        }
        return sheets[s].begin(bits, n);
    }

    public long write(int s, int i, long v) {
        if (!isSheet(s)) {
            return finding(BEYOND);
        }
        Sheet written = sheets[s];
        if (written.isMissing()) {
            return finding(MISSING);
        }
        if (!isWithin(i, 0, written.count - 1)) {
            return finding(BEYOND);
        }
        long was = written.row[i];
        written.row[i] = written.lowest(v);
        return was;
    }

    public int copy(int s, int from, int t, int to, int n) {
        if (!isSheet(s) || !isSheet(t)) {
            return finding(BEYOND);
        }
        Sheet source = sheets[s];
        Sheet target = sheets[t];
        if (source.isMissing() || target.isMissing()) {
            return finding(MISSING);
        }
        if (source.bits != target.bits) {
            return finding(KIND);
        }
        if (!source.reaches(from, n) || !target.reaches(to, n)) {
            return finding(BEYOND);
        }
        System.arraycopy(source.row, from, target.row, to, n);
        return n;
    }

    public int read(int s, int rule) {
        if (!isSheet(s)) {
            return finding(BEYOND);
        }
        Sheet claimed = sheets[s];
        if (claimed.isMissing()) {
            return finding(MISSING);
        }
        Rule asked = now.ruleAt(rule);
        if (asked == null) {
            return finding(BEYOND);
        }
        if (!now.isPeopled()) {
            return finding(STATE);
        }
        playBy(asked);
        int shorter = Math.min(claimed.count, play.restCount);
        int right = 0;
        while (right < shorter && claimed.row[right] == doingsOf(play.rests[right])) {
            right++;
        }
        return right == claimed.count && right == play.restCount ? 0 : right + 1;
    }

    // ---- images

    public int image() {
        kept.become(now);
        keeping = true;
        return 1;
    }

    public int undo() {
        if (!keeping) {
            return finding(NONE);
        }
        now.become(kept);
        return now.ruleCount;
    }

    public int tear() {
        int was = keeping ? 1 : 0;
        keeping = false;
        return was;
    }

    public int look(int what) {
        switch (what) {
            case 0:
            case 1:
                return now.cares[what];
            case 2:
            case 3:
                return now.goings[what - 2];
            case 4:
                return now.ruleCount;
            case 5:
                return now.harm == null ? 0 : 1;
            case 6:
                return tape.size;
            default:
                return finding(BEYOND);
        }
    }

    public int status(int which) {
        if (!isWithin(which, -1, FINDINGS - 1)) {
            return finding(BEYOND);
        }
        if (which >= 0) {
            return findings[which];
        }
        int all = 0;
        for (int i = 0; i < FINDINGS; i++) {
            all += findings[i];
        }
        return all;
    }

    // ---- what several acts need

    private int finding(int place) {
        findings[place]++;
        return FIRST_FINDING - place;
    }

    private void playBy(Rule rule) {
        field.prepare(now);
        bills.fill(now, field, rule);
        play.playOut(now, field, bills, now.settings[SHIFT]);
    }

    /** The finding with which lost() and how() refuse a REST, or FINDINGS: then the RESTS by the RULE stand in play. */
    private int refusalOfRest(int rule, int i) {
        Rule asked = now.ruleAt(rule);
        if (asked == null) {
            return BEYOND;
        }
        if (!now.isPeopled()) {
            return STATE;
        }
        if (i < 0) {
            return BEYOND;
        }
        playBy(asked);
        return i < play.restCount ? FINDINGS : NONE;
    }

    /** COST of 0, 1 or the THIRD at a cell that stands in bills. */
    private long costAt(int cell, int who) {
        long own = who == 2 ? 0 : now.ownCost(who, ownOf(cell, who));
        return own + (long) field.timesAt(cell, now.settings[SHIFT]) * bills.shares[who][cell];
    }

    private long totalAt(int cell) {
        return costAt(cell, 0) + costAt(cell, 1) + costAt(cell, 2);
    }

    private long costBy(Rule rule, int who, int cell) {
        bills.enter(now, rule, cell, field.hurts[cell]);
        return costAt(cell, who);
    }

    /** The cell to which one of the TWO would go from a cell by a RULE. */
    private int answerAt(Rule rule, int who, int cell) {
        int answered = cell;
        long least = ABOVE_ALL;
        for (int care = 0; care < now.cares[who]; care++) {
            for (int going = 0; going < now.goings[who]; going++) {
                int tried = withOwn(cell, who, care, going);
                long cost = costBy(rule, who, tried);
                if (cost < least) {
                    least = cost;
                    answered = tried;
                }
            }
        }
        return answered;
    }

    private boolean couldDoBetter(Rule rule, int who, int cell) {
        return costBy(rule, who, answerAt(rule, who, cell)) < costBy(rule, who, cell);
    }

    /** -1 if the first RULE is BETTER at a SHIFT, 1 if the second is, 0 if neither is; bills of both are filled. */
    private int better(int shift) {
        play.playOut(now, field, bills, shift);
        long greatest = play.greatestTotal;
        play.playOut(now, field, otherBills, shift);
        return Long.compare(greatest, play.greatestTotal);
    }

    /** The first pair of CARES at which a RULE breaks a LAW, or -1. */
    private int firstBreach(Rule rule, int law) {
        int bestCare = 0;
        if (law == 1) {
            field.prepare(now);
            bestCare = careOf(field.firstBest(now), 0);
        }
        for (int care = 0; care < now.cares[0]; care++) {
            for (int other = 0; other < now.cares[1]; other++) {
                if (isBroken(rule, law, care, other, bestCare)) {
                    return pairOf(care, other);
                }
            }
        }
        return -1;
    }

    private boolean isBroken(Rule rule, int law, int care, int other, int bestCare) {
        int pair = pairOf(care, other);
        if (law == 0) {
            return care + 1 < now.cares[0] && rule.dues[pairOf(care + 1, other)] > rule.dues[pair];
        }
        if (law == 1) {
            return care >= bestCare && rule.dues[pair] != 0;
        }
        return rule.dues[pair] + rule.thirdDues[pair] > WHOLE;
    }

    private static boolean fitsKind(int kind, int a, int b) {
        switch (kind) {
            case PLAIN_RULE:
            case STRICT_RULE:
                return true;
            case CARE_RULE:
            case TURNED_RULE:
                return isWithin(a, 0, MOST_BAR);
            case PARTS_RULE:
                return isWithin(a, 0, 11 * MOST_BAR) && a % 10 <= MOST_BAR && isWithin(b, 0, EIGHTHS);
            default:
                return false;
        }
    }

    private static boolean isWithin(int v, int from, int to) {
        return v >= from && v <= to;
    }

    private static boolean isOneOfTwo(int who) {
        return who == 0 || who == 1;
    }

    private static boolean isCare(int care) {
        return isWithin(care, 0, MOST_CARES - 1);
    }

    private static boolean isSheet(int s) {
        return isWithin(s, 0, SHEETS - 1);
    }

    private static boolean isSetOfMany(int set) {
        return isWithin(set, 0, (1 << MANY) - 1);
    }

    private static boolean isIn(int set, int one) {
        return isWithin(one, 0, MANY - 1) && (set >> one & 1) == 1;
    }

    private static int clamp(int v, int from, int to) {
        return Math.max(from, Math.min(to, v));
    }

    // ---- cells

    private static int doingsOf(int cell) {
        return 1000 * careOf(cell, 0) + 100 * careOf(cell, 1) + 10 * goingOf(cell, 0) + goingOf(cell, 1);
    }

    private static int careOf(int cell, int who) {
        return (who == 0 ? cell >> 7 : cell >> 4) & 7;
    }

    private static int goingOf(int cell, int who) {
        return (who == 0 ? cell >> 2 : cell) & 3;
    }

    /** CARE and GOING of one together, as a place in a row of OWNS. */
    private static int ownOf(int cell, int who) {
        return who == 0 ? (cell >> 5 & 28) | (cell >> 2 & 3) : (cell >> 2 & 28) | (cell & 3);
    }

    private static int withOwn(int cell, int who, int care, int going) {
        return who == 0 ? (cell & 0x73) | care << 7 | going << 2 : (cell & 0x38C) | care << 4 | going;
    }

    /** A CARE of 0 and one of 1 together, as a place in a row of PAIRS. */
    private static int pairOf(int care, int other) {
        return care << 3 | other;
    }

    /** All that image() keeps. */
    private static final class State {
        final int[] cares = new int[2];
        final int[][] prices = new int[2][MOST_CARES];
        final int[] goings = new int[2];
        final int[][] gains = new int[2][MOST_GOINGS];
        final int[] settings = new int[SHIFT + 1];
        final int[] weights = new int[MANY];
        final Rule[] rules = new Rule[MOST_RULES];
        int ruleCount = 0;
        Harm harm = null;

        State() {
            goings[0] = 1;
            goings[1] = 1;
            settings[PURSE] = MOST_SETTINGS[PURSE];
        }

        /** RULES and HARMS are shared: they never change once they stand here. */
        void become(State source) {
            for (int who = 0; who < 2; who++) {
                cares[who] = source.cares[who];
                goings[who] = source.goings[who];
                System.arraycopy(source.prices[who], 0, prices[who], 0, MOST_CARES);
                System.arraycopy(source.gains[who], 0, gains[who], 0, MOST_GOINGS);
            }
            System.arraycopy(source.settings, 0, settings, 0, settings.length);
            System.arraycopy(source.weights, 0, weights, 0, MANY);
            for (int i = 0; i < MOST_RULES; i++) {
                rules[i] = source.rules[i];
            }
            ruleCount = source.ruleCount;
            harm = source.harm;
        }

        boolean isPeopled() {
            return cares[0] > 0 && cares[1] > 0;
        }

        Rule ruleAt(int number) {
            return number >= 0 && number < ruleCount ? rules[number] : null;
        }

        /** Its number; there must be room. */
        int append(Rule made) {
            int number = ruleCount;
            if (number < MOST_RULES) {
                rules[number] = made;
                ruleCount = number + 1;
            }
            return number;
        }

        /** The cell of DOINGS, or -1 if there are none such. */
        int cellAt(int doings) {
            if (doings < 0 || doings / 1000 >= cares[0] || doings / 100 % 10 >= cares[1]) {
                return -1;
            }
            if (doings / 10 % 10 >= goings[0] || doings % 10 >= goings[1]) {
                return -1;
            }
            return doings / 1000 << 7 | doings / 100 % 10 << 4 | doings / 10 % 10 << 2 | doings % 10;
        }

        /** What one's own CARE and GOING cost it, whatever harm comes. */
        long ownCost(int who, int own) {
            int going = own & 3;
            return (long) WHOLE_COST * (going * prices[who][own >> 2] - gains[who][going]);
        }

        int weightOf(int set) {
            int together = 0;
            for (int one = 0; one < MANY; one++) {
                if (isIn(set, one)) {
                    together += weights[one];
                }
            }
            return together;
        }
    }

    /** A RULE of any kind. Its DUES hang on the two CARES alone, so they are reckoned once, when it is made. */
    private static final class Rule {
        final int[] dues = new int[PAIRS];
        final int[] thirdDues = new int[PAIRS];
        int kind = PLAIN_RULE;
        int bar = 0;
        int otherBar = 0;
        int share = 0;
        int coveredRule = 0;
        int coveredPart = 0;

        void beOfBars(int newKind, int newBar, int newOtherBar, int newShare) {
            kind = newKind;
            bar = newBar;
            otherBar = newOtherBar;
            share = newShare;
            for (int pair = 0; pair < PAIRS; pair++) {
                dues[pair] = dueByBars(pair >> 3, pair & 7);
                thirdDues[pair] = 0;
            }
        }

        private int dueByBars(int seen, int other) {
            switch (kind) {
                case STRICT_RULE:
                    return WHOLE;
                case CARE_RULE:
                    return seen < bar ? WHOLE : 0;
                case PARTS_RULE:
                    if (seen < bar && other < otherBar) {
                        return 8 * share;
                    }
                    return seen < bar ? WHOLE : 0;
                case TURNED_RULE:
                    return other < bar ? 0 : WHOLE;
                default:
                    return 0;
            }
        }

        void beCover(Rule covered, int number, int part) {
            kind = COVER_RULE;
            coveredRule = number;
            coveredPart = part;
            for (int pair = 0; pair < PAIRS; pair++) {
                int borne = covered.dues[pair] * part / EIGHTHS;
                dues[pair] = covered.dues[pair] - borne;
                thirdDues[pair] = covered.thirdDues[pair] + borne;
            }
        }

        void beTold(Text text, int[] stack) {
            kind = TOLD_RULE;
            for (int pair = 0; pair < PAIRS; pair++) {
                dues[pair] = clamp(text.valueAt(pair << 4, stack), 0, WHOLE);
                thirdDues[pair] = 0;
            }
        }

        boolean isUnder(int asked) {
            return asked == PLAIN_RULE || asked == kind || (asked == CARE_RULE && kind == PARTS_RULE);
        }

        boolean has(int what) {
            switch (what) {
                case 0:
                    return true;
                case 1:
                    return isUnder(CARE_RULE) || isUnder(TURNED_RULE);
                case 2:
                case 3:
                    return isUnder(PARTS_RULE);
                default:
                    return isUnder(COVER_RULE);
            }
        }

        int tell(int what) {
            switch (what) {
                case 0:
                    return kind;
                case 1:
                    return bar;
                case 2:
                    return otherBar;
                case 3:
                    return share;
                case 4:
                    return coveredRule;
                default:
                    return coveredPart;
            }
        }

        boolean isSued(int pair, int hurt, int law) {
            return (dues[pair] + thirdDues[pair]) * hurt > WHOLE * law;
        }

        /** What 0 pays of HURT if it is sued, in 64ths, without what LAW costs. */
        int paidByDoer(int pair, int hurt, int purse) {
            return Math.min(dues[pair] * hurt, WHOLE * purse);
        }
    }

    /** CHANCE and HURT at all DOINGS that there are: reckoned anew only if the HARM, CARES or GOINGS are others. */
    private static final class Field {
        // A CHANCE that no SHIFT brings above 0, and one that none brings below 64: beyond these E doesn't matter.
        private static final int NEVER = -MOST_SHIFT;
        private static final int ALWAYS = WHOLE + MOST_SHIFT;

        final int[] chances = new int[CELLS];
        final int[] hurts = new int[CELLS];
        // The cells that there are, and GOING of 0 times GOING of 1 at each.
        final int[] cells = new int[CELLS];
        final int[] both = new int[CELLS];
        final int[] stack = new int[MOST_BYTES];
        int count = 0;
        private Harm harm = null;
        private int shape = 0;

        void prepare(State state) {
            int newShape = (state.cares[0] * 16 + state.cares[1]) * 64 + state.goings[0] * 8 + state.goings[1];
            if (state.harm == harm && newShape == shape) {
                return;
            }
            harm = state.harm;
            shape = newShape;
            count = 0;
            for (int care = 0; care < state.cares[0]; care++) {
                for (int other = 0; other < state.cares[1]; other++) {
                    listGoings(state, pairOf(care, other) << 4);
                }
            }
        }

        private void listGoings(State state, int firstCell) {
            for (int going = 0; going < state.goings[0]; going++) {
                for (int other = 0; other < state.goings[1]; other++) {
                    int cell = firstCell | going << 2 | other;
                    if (count < CELLS && cell < CELLS) {
                        cells[count] = cell;
                        count++;
                        both[cell] = going * other;
                        learn(cell);
                    }
                }
            }
        }

        private void learn(int cell) {
            if (harm == null) {
                chances[cell] = NEVER;
                hurts[cell] = 0;
            } else {
                chances[cell] = clamp(harm.chance.valueAt(cell, stack), NEVER, ALWAYS);
                hurts[cell] = clamp(harm.size.valueAt(cell, stack), 0, MOST_HURT);
            }
        }

        int chanceAt(int cell, int shift) {
            return Math.max(0, Math.min(WHOLE, chances[cell] + shift));
        }

        /** CHANCE times both GOINGS, in 64ths. */
        int timesAt(int cell, int shift) {
            return both[cell] == 0 ? 0 : both[cell] * chanceAt(cell, shift);
        }

        long plainAt(State state, int cell) {
            long own = state.ownCost(0, ownOf(cell, 0)) + state.ownCost(1, ownOf(cell, 1));
            return own + (long) timesAt(cell, state.settings[SHIFT]) * hurts[cell] * WHOLE_BILL;
        }

        int firstBest(State state) {
            int best = 0;
            long least = ABOVE_ALL;
            for (int i = 0; i < count; i++) {
                long plain = plainAt(state, cells[i]);
                if (plain < least) {
                    least = plain;
                    best = cells[i];
                }
            }
            return best;
        }
    }

    /** What 0, 1 and the THIRD pay or bear of a HARM by a RULE, at the DOINGS entered, in 512ths. */
    private static final class Bills {
        final int[][] shares = new int[3][CELLS];

        void fill(State state, Field field, Rule rule) {
            for (int i = 0; i < field.count; i++) {
                int cell = field.cells[i];
                enter(state, rule, cell, field.hurts[cell]);
            }
        }

        void enter(State state, Rule rule, int cell, int hurt) {
            int wrong = state.settings[WRONG];
            int care = careOf(cell, 0);
            int other = careOf(cell, 1);
            shares[0][cell] = 0;
            shares[1][cell] = 0;
            shares[2][cell] = 0;
            addSeen(state, rule, cell, hurt, pairOf(care, other), EIGHTHS - wrong);
            addSeen(state, rule, cell, hurt, pairOf(Math.max(care - 1, 0), other), wrong);
        }

        private void addSeen(State state, Rule rule, int cell, int hurt, int pair, int eighths) {
            if (eighths == 0) {
                return;
            }
            int law = state.settings[LAW_OF_OTHER];
            if (!rule.isSued(pair, hurt, law)) {
                shares[1][cell] += eighths * WHOLE * hurt;
                return;
            }
            int paid = rule.paidByDoer(pair, hurt, state.settings[PURSE]);
            int paidByThird = rule.thirdDues[pair] * hurt;
            shares[0][cell] += eighths * (paid + WHOLE * state.settings[LAW_OF_DOER]);
            shares[1][cell] += eighths * (WHOLE * hurt - paid - paidByThird + WHOLE * law);
            shares[2][cell] += eighths * paidByThird;
        }
    }

    /** COSTS of the TWO at all DOINGS by filled bills and a SHIFT, and the RESTS among these. */
    private static final class Play {
        final long[][] costs = new long[2][CELLS];
        final int[] rests = new int[CELLS];
        int restCount = 0;
        /** The greatest TOTAL of a REST; without RESTS greater than any. */
        long greatestTotal = ABOVE_ALL;
        private final long[][] ownCosts = new long[2][OWNS];
        // The least COST of each of the TWO, by what the other does.
        private final long[][] leasts = new long[2][OWNS];

        void playOut(State state, Field field, Bills bills, int shift) {
            for (int who = 0; who < 2; who++) {
                Arrays.fill(leasts[who], ABOVE_ALL);
                for (int own = 0; own < OWNS; own++) {
                    ownCosts[who][own] = state.ownCost(who, own);
                }
            }
            enterCosts(field, bills, shift);
            listRests(field, bills, shift);
        }

        // Rows stand in locals here, because edge() may come by some hundred times in a call.
        private void enterCosts(Field field, Bills bills, int shift) {
            int[] doerShares = bills.shares[0];
            int[] otherShares = bills.shares[1];
            long[] doerLeasts = leasts[0];
            long[] otherLeasts = leasts[1];
            for (int i = 0; i < field.count; i++) {
                int cell = field.cells[i];
                int doer = ownOf(cell, 0);
                int other = ownOf(cell, 1);
                long times = field.timesAt(cell, shift);
                long doerCost = ownCosts[0][doer] + times * doerShares[cell];
                long otherCost = ownCosts[1][other] + times * otherShares[cell];
                costs[0][cell] = doerCost;
                costs[1][cell] = otherCost;
                if (doerCost < doerLeasts[other]) {
                    doerLeasts[other] = doerCost;
                }
                if (otherCost < otherLeasts[doer]) {
                    otherLeasts[doer] = otherCost;
                }
            }
        }

        private void listRests(Field field, Bills bills, int shift) {
            restCount = 0;
            greatestTotal = ABOVE_ALL;
            for (int i = 0; i < field.count; i++) {
                int cell = field.cells[i];
                if (costs[0][cell] == leasts[0][ownOf(cell, 1)] && costs[1][cell] == leasts[1][ownOf(cell, 0)]) {
                    enterRest(cell, (long) field.timesAt(cell, shift) * bills.shares[2][cell]);
                }
            }
        }

        private void enterRest(int cell, long thirdCost) {
            long total = costs[0][cell] + costs[1][cell] + thirdCost;
            greatestTotal = restCount == 0 ? total : Math.max(greatestTotal, total);
            if (restCount < CELLS) {
                rests[restCount] = cell;
                restCount++;
            }
        }

        /** The first cell with the least COSTS of the TWO together. */
        int cheapest(Field field) {
            int cheapest = 0;
            long least = ABOVE_ALL;
            for (int i = 0; i < field.count; i++) {
                int cell = field.cells[i];
                long both = costs[0][cell] + costs[1][cell];
                if (both < least) {
                    least = both;
                    cheapest = cell;
                }
            }
            return cheapest;
        }
    }

    /** A HARM that was read. */
    private static final class Harm {
        final Text chance;
        final Text size;

        Harm(Text chance, Text size) {
            this.chance = chance;
            this.size = size;
        }
    }

    /** An E as a row of steps on a stack: numbers (0 or more), names, and signs behind what they join. */
    private static final class Text {
        static final int NAME_A = -1;
        static final int NAME_B = -2;
        static final int NAME_G = -3;
        static final int NAME_H = -4;
        static final int NEGATE = -5;
        static final int ADD = -6;
        static final int SUBTRACT = -7;
        static final int TIMES = -8;
        static final int DIVIDE = -9;
        static final int LESS = -10;
        static final int SAME = -11;

        private final int[] steps;

        Text(int[] steps) {
            this.steps = steps;
        }

        /** E at a cell; the stack has room for as many numbers as there are steps. */
        int valueAt(int cell, int[] stack) {
            int top = 0;
            for (int i = 0; i < steps.length; i++) {
                int step = steps[i];
                if (step >= NAME_H) {
                    if (top < stack.length) {
                        stack[top] = step >= 0 ? step : valueOfName(step, cell);
                        top++;
                    }
                } else if (step == NEGATE) {
                    if (top > 0) {
                        stack[top - 1] = -stack[top - 1];
                    }
                } else if (top > 1) {
                    top--;
                    stack[top - 1] = join(step, stack[top - 1], stack[top]);
                }
            }
            return top > 0 ? stack[0] : 0;
        }

        // Takes the cell apart itself, for it stands at the end of the longest chain of calls.
        private static int valueOfName(int name, int cell) {
            switch (name) {
                case NAME_A:
                    return cell >> 7 & 7;
                case NAME_B:
                    return cell >> 4 & 7;
                case NAME_G:
                    return cell >> 2 & 3;
                default:
                    return cell & 3;
            }
        }

        private static int join(int sign, int left, int right) {
            switch (sign) {
                case ADD:
                    return left + right;
                case SUBTRACT:
                    return left - right;
                case TIMES:
                    return left * right;
                case DIVIDE:
                    return right == 0 ? 0 : left / right;
                case LESS:
                    return left < right ? 1 : 0;
                default:
                    return left == right ? 1 : 0;
            }
        }
    }

    /** THE TAPE. */
    private static final class Tape {
        final int[] bytes = new int[MOST_BYTES];
        int size = 0;

        void append(int one) {
            if (size < MOST_BYTES) {
                bytes[size] = one;
                size++;
            }
        }

        /** How many bytes it had. */
        int empty() {
            int had = size;
            size = 0;
            return had;
        }
    }

    /** Reads TEXTS from THE TAPE. A TEXT with a FAULT is answered by null. */
    private static final class TextReader {
        // TOKENS that are no SIGNS; a SIGN is told by its byte.
        private static final int END = -1;
        private static final int WRONG_TOKEN = -2;
        private static final int NUMBER = -3;
        private static final int NAME = -4;
        private static final int CHANCE_WORD = -5;
        private static final int SIZE_WORD = -6;
        private static final int PAYS_WORD = -7;
        private static final String SIGNS = ";<=+-*/()";
        // No step is this one, for numbers are 0 or more and all others below 0 down to SAME.
        private static final int NO_STEP = Text.SAME - 1;

        private final Tape tape;
        // All TOKENS of THE TAPE and END: what each is, where it begins, and of a NUMBER or a NAME its step.
        private final int[] tokens = new int[MOST_BYTES + 1];
        private final int[] places = new int[MOST_BYTES + 1];
        private final int[] meanings = new int[MOST_BYTES + 1];
        private int tokenCount = 0;
        private int at = 0;
        private final int[] steps = new int[MOST_BYTES];
        private int stepCount = 0;

        TextReader(Tape tape) {
            this.tape = tape;
        }

        /** The FAULT of the TEXT that was read last. */
        int fault() {
            return places[at];
        }

        Harm readHarm() {
            cutTokens();
            if (!pass(CHANCE_WORD)) {
                return null;
            }
            Text chance = takeText();
            if (chance == null || !pass(';') || !pass(SIZE_WORD)) {
                return null;
            }
            Text size = takeText();
            if (size == null || !pass(';') || tokens[at] != END) {
                return null;
            }
            return new Harm(chance, size);
        }

        Text readTold() {
            cutTokens();
            if (!pass(PAYS_WORD)) {
                return null;
            }
            Text text = takeText();
            return tokens[at] == END ? text : null;
        }

        private Text takeText() {
            stepCount = 0;
            return takeE(0) ? new Text(Arrays.copyOf(steps, stepCount)) : null;
        }

        // Each of these takes what it is named after and tells if it stood there; open is how many ( and - are open.

        private boolean takeE(int open) {
            if (!takeSum(open)) {
                return false;
            }
            int sign = pass('<') ? Text.LESS : pass('=') ? Text.SAME : NO_STEP;
            if (sign == NO_STEP) {
                return true;
            }
            boolean stands = takeSum(open);
            emit(sign);
            return stands;
        }

        private boolean takeSum(int open) {
            boolean stands = takeTerm(open);
            for (int i = 0; i < MOST_BYTES && stands; i++) {
                int sign = pass('+') ? Text.ADD : pass('-') ? Text.SUBTRACT : NO_STEP;
                if (sign == NO_STEP) {
                    return true;
                }
                stands = takeTerm(open);
                emit(sign);
            }
            return stands;
        }

        private boolean takeTerm(int open) {
            boolean stands = takeOne(open);
            for (int i = 0; i < MOST_BYTES && stands; i++) {
                int sign = pass('*') ? Text.TIMES : pass('/') ? Text.DIVIDE : NO_STEP;
                if (sign == NO_STEP) {
                    return true;
                }
                stands = takeOne(open);
                emit(sign);
            }
            return stands;
        }

        private boolean takeOne(int open) {
            int meaning = meanings[at];
            if (pass(NUMBER) || pass(NAME)) {
                emit(meaning);
                return true;
            }
            if (open >= MOST_OPEN) {
                return false;
            }
            if (pass('(')) {
                return takeE(open + 1) && pass(')');
            }
            if (!pass('-')) {
                return false;
            }
            boolean stands = takeOne(open + 1);
            emit(Text.NEGATE);
            return stands;
        }

        private void emit(int step) {
            if (stepCount < steps.length) {
                steps[stepCount] = step;
                stepCount++;
            }
        }

        /** Goes on to the next TOKEN if this one is as expected; END, the last, is never passed. */
        private boolean pass(int expected) {
            if (tokens[at] != expected || at + 1 >= tokenCount) {
                return false;
            }
            at++;
            return true;
        }

        // All TOKENS are cut ahead of reading, so that cutting doesn't stand upon the recursion of takeE.
        private void cutTokens() {
            tokenCount = 0;
            at = 0;
            for (int place = 0; place < tape.size; place++) {
                if (tape.bytes[place] != ' ' && !goesOn(place)) {
                    cutToken(place);
                }
            }
            enter(END, tape.size, 0);
        }

        /** Whether a byte belongs to the TOKEN of the byte ahead of it: only WORDS and NUMBERS have more than one. */
        private boolean goesOn(int place) {
            if (place == 0) {
                return false;
            }
            int one = tape.bytes[place];
            int ahead = tape.bytes[place - 1];
            return (isLetter(one) && isLetter(ahead)) || (isDigit(one) && isDigit(ahead));
        }

        private void cutToken(int place) {
            int one = tape.bytes[place];
            int behind = place + 1;
            while (behind < tape.size && goesOn(behind)) {
                behind++;
            }
            if (isLetter(one)) {
                int step = behind == place + 1 ? nameStep(one) : NO_STEP;
                enter(step == NO_STEP ? wordToken(place, behind) : NAME, place, step);
            } else if (isDigit(one)) {
                int number = numberOf(place, behind);
                enter(number > MOST_NUMBER ? WRONG_TOKEN : NUMBER, place, number);
            } else {
                enter(SIGNS.indexOf((char) one) >= 0 ? one : WRONG_TOKEN, place, 0);
            }
        }

        private void enter(int token, int place, int meaning) {
            if (tokenCount < tokens.length) {
                tokens[tokenCount] = token;
                places[tokenCount] = place;
                meanings[tokenCount] = meaning;
                tokenCount++;
            }
        }

        private static int nameStep(int letter) {
            switch (letter) {
                case 'a':
                    return Text.NAME_A;
                case 'b':
                    return Text.NAME_B;
                case 'g':
                    return Text.NAME_G;
                case 'h':
                    return Text.NAME_H;
                default:
                    return NO_STEP;
            }
        }

        private int wordToken(int from, int behind) {
            if (spells(from, behind, "chance")) {
                return CHANCE_WORD;
            }
            if (spells(from, behind, "size")) {
                return SIZE_WORD;
            }
            return spells(from, behind, "pays") ? PAYS_WORD : WRONG_TOKEN;
        }

        private boolean spells(int from, int behind, String word) {
            if (behind - from != word.length() || behind > tape.size) {
                return false;
            }
            for (int i = 0; i < word.length(); i++) {
                if (tape.bytes[from + i] != word.charAt(i)) {
                    return false;
                }
            }
            return true;
        }

        /** Held just above the most that a NUMBER may be, so that no row of digits wraps. */
        private int numberOf(int from, int behind) {
            int number = 0;
            for (int i = from; i < behind; i++) {
                number = Math.min(10 * number + tape.bytes[i] - '0', MOST_NUMBER + 1);
            }
            return number;
        }

        private static boolean isLetter(int one) {
            return one >= 'a' && one <= 'z';
        }

        private static boolean isDigit(int one) {
            return one >= '0' && one <= '9';
        }
    }

    /** A row of numbers, or none (MISSING). */
    private static final class Sheet {
        final long[] row = new long[MOST_ROW];
        int count = 0;
        /** 0 if it is MISSING. */
        int bits = 0;

        boolean isMissing() {
            return bits == 0;
        }

        /** How many numbers it has then. */
        int begin(int newBits, int newCount) {
            Arrays.fill(row, 0L);
            bits = newBits;
            count = newBits == 0 ? 0 : newCount;
            return count;
        }

        long lowest(long v) {
            if (bits == 8) {
                return (byte) v;
            }
            return bits == 16 ? (short) v : v;
        }

        boolean reaches(int from, int n) {
            return from >= 0 && n >= 0 && from <= count && n <= count - from;
        }
    }
}
