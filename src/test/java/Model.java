import java.util.ArrayList;
import java.util.Arrays;
import java.util.List;

/**
 * The document said once more, as directly as can be and without a thought for speed: RandomRunsTest compares
 * CareRules with it. Nothing here is taken from CareRules, so that a slip in one shows against the other.
 */
final class Model {
    static final int BEYOND = 0, FULL = 1, KIND = 2, NONE = 3, STATE = 4, MISSING = 5, SIZE = 6;

    /** A finding, thrown from wherever it is found. */
    private static final class Finding extends RuntimeException {
        final int place;

        Finding(int place) {
            super(null, null, false, false);
            this.place = place;
        }
    }

    /** A FAULT in a TEXT. */
    private static final class Fault extends RuntimeException {
        final int place;

        Fault(int place) {
            super(null, null, false, false);
            this.place = place;
        }
    }

    private interface Expr {
        int at(int a, int b, int g, int h);
    }

    private record Token(int place, String text) { }

    private record Rule(int kind, int bar, int other, int share, int of, int part, Expr text) { }

    private static final class State {
        List<List<Integer>> prices = List.of(new ArrayList<>(), new ArrayList<>());
        List<List<Integer>> gains = List.of(new ArrayList<>(List.of(0)), new ArrayList<>(List.of(0)));
        List<Rule> rules = new ArrayList<>();
        Expr chance, size;
        int[] settings = {0, 9999, 0, 0, 0};
        int[] weights = new int[8];

        State twin() {
            State t = new State();
            for (int who = 0; who < 2; who++) {
                t.prices.get(who).addAll(prices.get(who));
                t.gains.get(who).clear();
                t.gains.get(who).addAll(gains.get(who));
            }
            t.rules.addAll(rules);
            t.chance = chance;
            t.size = size;
            t.settings = settings.clone();
            t.weights = weights.clone();
            return t;
        }
    }

    private State st = new State();
    private State kept = null;
    private final List<Integer> tape = new ArrayList<>();
    private final long[][] sheets = new long[4][];
    private final int[] bits = new int[4];
    private final int[] found = new int[7];

    /** Does the call of that name, and answers what is due. */
    long call(String name, long... x) {
        int[] i = new int[x.length];
        for (int k = 0; k < x.length; k++) {
            i[k] = (int) x[k];
        }
        try {
            return act(name, i, x);
        } catch (Finding f) {
            found[f.place]++;
            return -1000000001 - f.place;
        } catch (Fault f) {
            return -1 - f.place;
        }
    }

    /** RESTS by a RULE without a call, so that nothing is counted; null if a call would find something. */
    List<Integer> peekRests(int rule) {
        boolean may = rule < st.rules.size() && !st.prices.get(0).isEmpty() && !st.prices.get(1).isEmpty();
        return may ? rests(st.rules.get(rule)) : null;
    }

    private long act(String name, int[] i, long[] x) {
        switch (name) {
            case "care": {
                ask(i[0] == 0 || i[0] == 1, BEYOND);
                ask(i[1] >= 0 && i[1] <= 999, BEYOND);
                ask(st.prices.get(i[0]).size() < 8, FULL);
                st.prices.get(i[0]).add(i[1]);
                return st.prices.get(i[0]).size() - 1;
            }
            case "going": {
                ask(i[0] == 0 || i[0] == 1, BEYOND);
                ask(i[1] >= 0 && i[1] <= 9999, BEYOND);
                ask(st.gains.get(i[0]).size() < 4, FULL);
                st.gains.get(i[0]).add(i[1]);
                return st.gains.get(i[0]).size() - 1;
            }
            case "feed": {
                ask(i[1] >= 1 && i[1] <= 4, BEYOND);
                ask(tape.size() + i[1] <= 120, FULL);
                byte[] all = {(byte) (i[0] >> 24), (byte) (i[0] >> 16), (byte) (i[0] >> 8), (byte) i[0]};
                for (int k = 4 - i[1]; k < 4; k++) {
                    tape.add(all[k] & 0xff);
                }
                return tape.size();
            }
            case "wipe": {
                int had = tape.size();
                tape.clear();
                return had;
            }
            case "harm": {
                Texts t = new Texts(tape);
                t.take("chance");
                Expr chance = t.e(0);
                t.take(";");
                t.take("size");
                Expr size = t.e(0);
                t.take(";");
                t.take("");
                st.chance = chance;
                st.size = size;
                tape.clear();
                return 1;
            }
            case "hurt":
                return hurtAt(doings(i[0]), i[1]);
            case "rule": {
                int kind = i[0], a = i[1], b = i[2];
                ask(kind >= 0 && kind <= 4, BEYOND);
                if (kind == 2 || kind == 4) {
                    ask(a >= 0 && a <= 8, BEYOND);
                    return add(new Rule(kind, a, 0, 0, 0, 0, null));
                }
                if (kind == 3) {
                    ask(a >= 0 && a <= 88 && a / 10 <= 8 && a % 10 <= 8 && b >= 0 && b <= 8, BEYOND);
                    return add(new Rule(kind, a / 10, a % 10, b, 0, 0, null));
                }
                return add(new Rule(kind, 0, 0, 0, 0, 0, null));
            }
            case "cover":
                ruled(i[0]);
                ask(i[1] >= 0 && i[1] <= 8, BEYOND);
                return add(new Rule(5, 0, 0, 0, i[0], i[1], null));
            case "told": {
                ask(st.rules.size() < 20, FULL);
                Texts t = new Texts(tape);
                t.take("pays");
                Expr text = t.e(0);
                t.take("");
                tape.clear();
                return add(new Rule(6, 0, 0, 0, 0, 0, text));
            }
            case "of": {
                Rule r = ruled(i[0]);
                ask(i[1] >= 0 && i[1] <= 5, BEYOND);
                String having = new String[] {"0123456", "234", "3", "3", "5", "5"}[i[1]];
                ask(having.contains("" + r.kind), KIND);
                return new int[] {r.kind, r.bar, r.other, r.share, r.of, r.part}[i[1]];
            }
            case "as": {
                Rule r = ruled(i[0]);
                ask(i[1] >= 0 && i[1] <= 6, BEYOND);
                ask(i[1] == 0 || i[1] == r.kind || i[1] == 2 && r.kind == 3, KIND);
                return i[0];
            }
            case "due": {
                Rule r = ruled(i[0]);
                ask(i[1] >= 0 && i[1] <= 7 && i[2] >= 0 && i[2] <= 7 && (i[3] == 0 || i[3] == 2), BEYOND);
                return i[3] == 0 ? due(r, i[1], i[2]) : third(r, i[1], i[2]);
            }
            case "set": {
                ask(i[0] >= 0 && i[0] <= 4, BEYOND);
                int from = i[0] == 4 ? -64 : 0;
                int to = new int[] {8, 9999, 9999, 9999, 64}[i[0]];
                ask(i[1] >= from && i[1] <= to, BEYOND);
                int was = st.settings[i[0]];
                st.settings[i[0]] = i[1];
                return was;
            }
            default:
                return actMore(name, i, x);
        }
    }

    private long actMore(String name, int[] i, long[] x) {
        switch (name) {
            case "cost": {
                Rule r = ruled(i[0]);
                int d = doings(i[1]);
                ask(i[2] >= 0 && i[2] <= 3, BEYOND);
                return i[2] == 3 ? total(r, d) : cost(r, d, i[2]);
            }
            case "plain":
                return plainAt(doings(i[0]));
            case "least":
                people();
                return leastOf();
            case "best": {
                people();
                ask(i[0] >= -1, BEYOND);
                return oneOf(bests(), i[0]);
            }
            case "answer": {
                Rule r = ruled(i[0]);
                ask(i[1] == 0 || i[1] == 1, BEYOND);
                int d = doings(i[2]);
                int found = -1;
                long cheapest = 0;
                for (int care = 0; care < 8; care++) {
                    for (int going = 0; going < 4; going++) {
                        int e = changed(d, i[1], care, going);
                        if (exists(e) && (found < 0 || cost(r, e, i[1]) < cheapest)) {
                            found = 10 * care + going;
                            cheapest = cost(r, e, i[1]);
                        }
                    }
                }
                return found;
            }
            case "rest": {
                Rule r = ruled(i[0]);
                people();
                ask(i[1] >= -1, BEYOND);
                return oneOf(rests(r), i[1]);
            }
            case "judge": {
                Rule r = ruled(i[0]);
                int d = doings(i[1]);
                return (couldDoBetter(r, d, 0) ? 1 : 0) + (couldDoBetter(r, d, 1) ? 2 : 0);
            }
            case "lost":
                return lostOf(ruled(i[0]), restOf(i[0], i[1]));
            case "how": {
                ruled(i[0]);
                int d = restOf(i[0], i[1]);
                int e = bests().get(0);
                int unlike = 0;
                for (int bit = 0; bit < 4; bit++) {
                    unlike += digit(d, bit) != digit(e, bit) ? 1 << bit : 0;
                }
                return unlike;
            }
            case "worst": {
                Rule r = ruled(i[0]);
                people();
                Long w = greatest(r);
                ask(w != null, NONE);
                return w;
            }
            case "find": {
                ask(i[0] == 2 || i[0] == 4, BEYOND);
                people();
                int bar = -1;
                long least = 0;
                for (int b = 0; b <= 8; b++) {
                    Long w = greatest(new Rule(i[0], b, 0, 0, 0, 0, null));
                    if (w != null && (bar < 0 || w < least)) {
                        bar = b;
                        least = w;
                    }
                }
                ask(bar >= 0, NONE);
                return bar;
            }
            case "keeps":
                return breachOf(i[0], i[1]) < 0 ? 1 : 0;
            case "breach": {
                int b = breachOf(i[0], i[1]);
                ask(b >= 0, NONE);
                return b;
            }
            case "agree":
                return agreed(i[0]);
            case "talk": {
                int d = agreed(i[0]);
                return lostOf(st.rules.get(i[0]), d);
            }
            default:
                return actLast(name, i, x);
        }
    }

    private long actLast(String name, int[] i, long[] x) {
        switch (name) {
            case "settle": {
                Rule r = ruled(i[0]);
                int d = doings(i[1]);
                ask(i[2] >= 0 && i[2] <= 99999, BEYOND);
                int hurt = hurtAt(d, 1), a = digit(d, 0), b = digit(d, 1);
                int[] s = st.settings;
                if (due(r, a, b) * hurt + third(r, a, b) * hurt <= 64 * s[3]) {
                    return 0;
                }
                int paid = Math.min(due(r, a, b) * hurt, 64 * s[1]) + third(r, a, b) * hurt;
                return 64L * i[2] >= paid - 64 * s[3] && 64L * i[2] <= paid + 64 * s[2] ? 1 : 2;
            }
            case "edge": {
                Rule a = ruled(i[0]);
                Rule b = ruled(i[1]);
                people();
                int shift = st.settings[4];
                try {
                    return nearest(a, b, shift);
                } finally {
                    st.settings[4] = shift;
                }
            }
            case "many": {
                ask(i[0] >= 0 && i[0] <= 7 && i[1] >= 0 && i[1] <= 99, BEYOND);
                int was = st.weights[i[0]];
                st.weights[i[0]] = i[1];
                return was;
            }
            case "whose": {
                ask(i[0] >= 0 && i[0] <= 255 && i[1] >= 1 && i[1] <= 9999, BEYOND);
                ask(weigh(i[0]) >= i[1], STATE);
                int set = 0;
                for (int k = 0; k < 8; k++) {
                    if ((i[0] & 1 << k) != 0 && weigh(i[0] & ~(1 << k)) < i[1]) {
                        set += 1 << k;
                    }
                }
                return set;
            }
            case "part": {
                ask(i[0] >= 0 && i[0] <= 255 && i[1] >= 0 && i[1] <= 9999, BEYOND);
                ask(i[2] >= 0 && i[2] <= 7 && (i[0] & 1 << i[2]) != 0, BEYOND);
                int all = weigh(i[0]);
                ask(all > 0, STATE);
                int left = i[1];
                int[] pays = new int[8];
                int first = 8;
                for (int k = 7; k >= 0; k--) {
                    if ((i[0] & 1 << k) != 0) {
                        pays[k] = i[1] * st.weights[k] / all;
                        left -= pays[k];
                        first = st.weights[k] > 0 ? k : first;
                    }
                }
                pays[first] += left;
                return pays[i[2]];
            }
            case "sheet": {
                ask(i[0] >= 0 && i[0] <= 3, BEYOND);
                ask(i[1] == 0 || i[1] == 8 || i[1] == 16 || i[1] == 64, BEYOND);
                ask(i[2] >= 0, SIZE);
                ask(i[2] <= 40, BEYOND);
                bits[i[0]] = i[1];
                sheets[i[0]] = i[1] == 0 ? null : new long[i[2]];
                return i[1] == 0 ? 0 : i[2];
            }
            case "write": {
                long[] sheet = sheetOf(i[0]);
                ask(i[1] >= 0 && i[1] < sheet.length, BEYOND);
                long was = sheet[i[1]];
                int away = 64 - bits[i[0]];
                sheet[i[1]] = x[2] << away >> away;
                return was;
            }
            case "copy": {
                ask(i[0] >= 0 && i[0] <= 3 && i[2] >= 0 && i[2] <= 3, BEYOND);
                long[] s = sheetOf(i[0]), t = sheetOf(i[2]);
                ask(bits[i[0]] == bits[i[2]], KIND);
                ask(i[1] >= 0 && i[3] >= 0 && i[4] >= 0, BEYOND);
                ask((long) i[1] + i[4] <= s.length && (long) i[3] + i[4] <= t.length, BEYOND);
                long[] were = s.clone();
                for (int k = 0; k < i[4]; k++) {
                    t[i[3] + k] = were[i[1] + k];
                }
                return i[4];
            }
            case "read": {
                long[] sheet = sheetOf(i[0]);
                Rule r = ruled(i[1]);
                people();
                List<Long> said = new ArrayList<>(), due = new ArrayList<>();
                Arrays.stream(sheet).forEach(said::add);
                rests(r).forEach(d -> due.add((long) d));
                if (said.equals(due)) {
                    return 0;
                }
                int right = 0;
                while (right < said.size() && right < due.size() && said.get(right).equals(due.get(right))) {
                    right++;
                }
                return right + 1;
            }
            case "image":
                kept = st.twin();
                return 1;
            case "undo":
                ask(kept != null, NONE);
                st = kept.twin();
                return st.rules.size();
            case "tear": {
                int was = kept == null ? 0 : 1;
                kept = null;
                return was;
            }
            case "look": {
                ask(i[0] >= 0 && i[0] <= 6, BEYOND);
                return new int[] {st.prices.get(0).size(), st.prices.get(1).size(), st.gains.get(0).size(),
                    st.gains.get(1).size(), st.rules.size(), st.chance == null ? 0 : 1, tape.size()}[i[0]];
            }
            case "status":
                ask(i[0] >= -1 && i[0] <= 6, BEYOND);
                return i[0] == -1 ? Arrays.stream(found).sum() : found[i[0]];
            default:
                throw new IllegalStateException("no such call: " + name);
        }
    }

    private static void ask(boolean holds, int finding) {
        if (!holds) {
            throw new Finding(finding);
        }
    }

    private Rule ruled(int number) {
        ask(number >= 0 && number < st.rules.size(), BEYOND);
        return st.rules.get(number);
    }

    private int add(Rule r) {
        ask(st.rules.size() < 20, FULL);
        st.rules.add(r);
        return st.rules.size() - 1;
    }

    private void people() {
        ask(!st.prices.get(0).isEmpty() && !st.prices.get(1).isEmpty(), STATE);
    }

    private long[] sheetOf(int s) {
        ask(s >= 0 && s <= 3, BEYOND);
        ask(sheets[s] != null, MISSING);
        return sheets[s];
    }

    private int weigh(int set) {
        int w = 0;
        for (int k = 0; k < 8; k++) {
            w += (set >> k) % 2 * st.weights[k];
        }
        return w;
    }

    /** Digits by their places from the left: CARE of 0, CARE of 1, GOING of 0, GOING of 1. */
    private static int digit(int d, int place) {
        return d / new int[] {1000, 100, 10, 1}[place] % 10;
    }

    private boolean exists(int d) {
        return d >= 0 && d <= 9999 && digit(d, 0) < st.prices.get(0).size() && digit(d, 1) < st.prices.get(1).size()
            && digit(d, 2) < st.gains.get(0).size() && digit(d, 3) < st.gains.get(1).size();
    }

    private int doings(int d) {
        ask(exists(d), BEYOND);
        return d;
    }

    private List<Integer> all() {
        List<Integer> list = new ArrayList<>();
        for (int d = 0; d <= 7733; d++) {
            if (exists(d)) {
                list.add(d);
            }
        }
        return list;
    }

    private static int changed(int d, int who, int care, int going) {
        int other = who == 0 ? digit(d, 1) * 100 + digit(d, 3) : digit(d, 0) * 1000 + digit(d, 2) * 10;
        return other + (who == 0 ? care * 1000 + going * 10 : care * 100 + going);
    }

    private int hurtAt(int d, int what) {
        ask(what == 0 || what == 1, BEYOND);
        if (st.chance == null) {
            return 0;
        }
        Expr e = what == 0 ? st.chance : st.size;
        long v = e.at(digit(d, 0), digit(d, 1), digit(d, 2), digit(d, 3));
        v += what == 0 ? st.settings[4] : 0;
        return (int) Math.max(0, Math.min(what == 0 ? 64 : 9999, v));
    }

    private int due(Rule r, int seen, int other) {
        switch (r.kind) {
            case 1: return 64;
            case 2: return seen < r.bar ? 64 : 0;
            case 3: return seen < r.bar ? other < r.other ? 8 * r.share : 64 : 0;
            case 4: return other < r.bar ? 0 : 64;
            case 5: {
                int d = due(st.rules.get(r.of), seen, other);
                return d - d * r.part / 8;
            }
            case 6: return Math.max(0, Math.min(64, r.text.at(seen, other, 0, 0)));
            default: return 0;
        }
    }

    private int third(Rule r, int seen, int other) {
        if (r.kind != 5) {
            return 0;
        }
        Rule of = st.rules.get(r.of);
        return third(of, seen, other) + due(of, seen, other) * r.part / 8;
    }

    /** What 0, 1 or the THIRD pays or bears of a HARM that is SEEN so, in 64ths. */
    private long borne(Rule r, int hurt, int seen, int other, int who) {
        int[] s = st.settings;
        long d = due(r, seen, other) * hurt;
        long t = third(r, seen, other) * hurt;
        boolean law = d + t > 64 * s[3];
        long p = Math.min(d, 64 * s[1]);
        switch (who) {
            case 0: return law ? p + 64 * s[2] : 0;
            case 1: return law ? 64 * hurt - p - t + 64 * s[3] : 64 * hurt;
            default: return law ? t : 0;
        }
    }

    private long cost(Rule r, int d, int who) {
        long sum = 0;
        int both = digit(d, 2) * digit(d, 3);
        if (both > 0) {
            int a = digit(d, 0), b = digit(d, 1), hurt = hurtAt(d, 1), wrong = st.settings[0];
            sum = wrong * borne(r, hurt, Math.max(0, a - 1), b, who) + (8 - wrong) * borne(r, hurt, a, b, who);
        }
        return own(d, who) + hurtAt(d, 0) * both * sum;
    }

    private long own(int d, int who) {
        if (who == 2) {
            return 0;
        }
        int going = digit(d, 2 + who);
        return 32768L * (going * st.prices.get(who).get(digit(d, who)) - st.gains.get(who).get(going));
    }

    private long total(Rule r, int d) {
        return cost(r, d, 0) + cost(r, d, 1) + cost(r, d, 2);
    }

    private long plainAt(int d) {
        return own(d, 0) + own(d, 1) + 512L * hurtAt(d, 0) * digit(d, 2) * digit(d, 3) * hurtAt(d, 1);
    }

    private long leastOf() {
        return all().stream().mapToLong(this::plainAt).min().getAsLong();
    }

    private List<Integer> bests() {
        long least = leastOf();
        return all().stream().filter(d -> plainAt(d) == least).toList();
    }

    private static int oneOf(List<Integer> list, int i) {
        if (i == -1) {
            return list.size();
        }
        ask(i < list.size(), NONE);
        return list.get(i);
    }

    private boolean couldDoBetter(Rule r, int d, int who) {
        long is = cost(r, d, who);
        for (int care = 0; care < st.prices.get(who).size(); care++) {
            for (int going = 0; going < st.gains.get(who).size(); going++) {
                if (cost(r, changed(d, who, care, going), who) < is) {
                    return true;
                }
            }
        }
        return false;
    }

    private List<Integer> rests(Rule r) {
        return all().stream().filter(d -> !couldDoBetter(r, d, 0) && !couldDoBetter(r, d, 1)).toList();
    }

    private int restOf(int rule, int i) {
        Rule r = ruled(rule);
        people();
        ask(i >= 0, BEYOND);
        return oneOf(rests(r), i);
    }

    private long lostOf(Rule r, int d) {
        return total(r, d) - leastOf();
    }

    private Long greatest(Rule r) {
        List<Integer> rests = rests(r);
        if (rests.isEmpty()) {
            return null;
        }
        long least = leastOf();
        return rests.stream().mapToLong(d -> total(r, d) - least).max().getAsLong();
    }

    private int breachOf(int rule, int law) {
        Rule r = ruled(rule);
        ask(law >= 0 && law <= 2, BEYOND);
        people();
        int first = digit(bests().get(0), 0);
        int cares = st.prices.get(0).size();
        for (int a = 0; a < cares; a++) {
            for (int b = 0; b < st.prices.get(1).size(); b++) {
                boolean kept = true;
                if (law == 0 && a < cares - 1) {
                    kept = due(r, a + 1, b) <= due(r, a, b);
                } else if (law == 1 && a >= first) {
                    kept = due(r, a, b) == 0;
                } else if (law == 2) {
                    kept = due(r, a, b) + third(r, a, b) <= 64;
                }
                if (!kept) {
                    return 10 * a + b;
                }
            }
        }
        return -1;
    }

    private int agreed(int rule) {
        Rule r = ruled(rule);
        people();
        int found = -1;
        for (int d : all()) {
            if (found < 0 || cost(r, d, 0) + cost(r, d, 1) < cost(r, found, 0) + cost(r, found, 1)) {
                found = d;
            }
        }
        return found;
    }

    private int nearest(Rule a, Rule b, int shift) {
        int is = better(a, b, shift);
        for (int far = 1; far <= 128; far++) {
            for (int s : new int[] {shift - far, shift + far}) {
                if (s >= -64 && s <= 64 && better(a, b, s) != is) {
                    return s;
                }
            }
        }
        throw new Finding(NONE);
    }

    private int better(Rule a, Rule b, int shift) {
        st.settings[4] = shift;
        Long x = greatest(a), y = greatest(b);
        if (x == null || y == null) {
            return x == y ? 0 : x == null ? 2 : 1;
        }
        return x < y ? 1 : y < x ? 2 : 0;
    }

    /** TOKENS of a tape, all cut first, and the E that they make. */
    private static final class Texts {
        private final List<Token> tokens = new ArrayList<>();
        private int at = 0;

        Texts(List<Integer> tape) {
            StringBuilder all = new StringBuilder();
            tape.forEach(b -> all.append((char) (int) b));
            int p = 0;
            while (p < all.length()) {
                int q = p;
                String rest = all.substring(p);
                if (rest.startsWith(" ")) {
                    p++;
                    continue;
                }
                while (q < all.length() && (all.charAt(q) + "").matches(rest.matches("(?s)[a-z].*") ? "[a-z]"
                    : rest.matches("(?s)[0-9].*") ? "[0-9]" : "nothing")) {
                    q++;
                }
                q = Math.max(q, p + 1);
                tokens.add(new Token(p, all.substring(p, q)));
                p = q;
            }
            tokens.add(new Token(all.length(), ""));
        }

        private Token next() {
            return tokens.get(at);
        }

        private boolean is(String text) {
            return next().text.equals(text);
        }

        void take(String text) {
            if (!is(text)) {
                throw new Fault(next().place);
            }
            at++;
        }

        Expr e(int open) {
            Expr l = sum(open);
            if (is("<")) {
                at++;
                Expr r = sum(open);
                return (a, b, g, h) -> l.at(a, b, g, h) < r.at(a, b, g, h) ? 1 : 0;
            }
            if (is("=")) {
                at++;
                Expr r = sum(open);
                return (a, b, g, h) -> l.at(a, b, g, h) == r.at(a, b, g, h) ? 1 : 0;
            }
            return l;
        }

        private Expr sum(int open) {
            Expr left = term(open);
            while (is("+") || is("-")) {
                boolean plus = is("+");
                at++;
                Expr l = left;
                Expr r = term(open);
                left = plus ? (a, b, g, h) -> l.at(a, b, g, h) + r.at(a, b, g, h)
                    : (a, b, g, h) -> l.at(a, b, g, h) - r.at(a, b, g, h);
            }
            return left;
        }

        private Expr term(int open) {
            Expr left = one(open);
            while (is("*") || is("/")) {
                boolean times = is("*");
                at++;
                Expr l = left;
                Expr r = one(open);
                left = times ? (a, b, g, h) -> l.at(a, b, g, h) * r.at(a, b, g, h) : (a, b, g, h) -> {
                    int by = r.at(a, b, g, h);
                    return by == 0 ? 0 : l.at(a, b, g, h) / by;
                };
            }
            return left;
        }

        private Expr one(int open) {
            Token t = next();
            if (t.text.matches("[0-9]+") && new java.math.BigInteger(t.text).bitLength() < 20
                && Integer.parseInt(t.text) <= 9999) {
                at++;
                int n = Integer.parseInt(t.text);
                return (a, b, g, h) -> n;
            }
            switch (t.text) {
                case "a": at++; return (a, b, g, h) -> a;
                case "b": at++; return (a, b, g, h) -> b;
                case "g": at++; return (a, b, g, h) -> g;
                case "h": at++; return (a, b, g, h) -> h;
                default: break;
            }
            if (open < 8 && is("(")) {
                at++;
                Expr in = e(open + 1);
                take(")");
                return in;
            }
            if (open < 8 && is("-")) {
                at++;
                Expr of = one(open + 1);
                return (a, b, g, h) -> -of.at(a, b, g, h);
            }
            throw new Fault(t.place);
        }
    }
}
