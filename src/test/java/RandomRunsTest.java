import java.lang.reflect.InvocationTargetException;
import java.lang.reflect.Method;
import java.nio.charset.StandardCharsets;
import java.util.ArrayList;
import java.util.List;
import java.util.Map;
import java.util.Random;
import java.util.TreeMap;
import java.util.function.Supplier;

/**
 * Random runs (the same ones each time) on CareRules and on Model, call by call. Prints the run up to the first
 * answer that differs, and fails if an answer came rarely enough that the comparison would be idle.
 */
public final class RandomRunsTest {
    private static final int RUNS = 360;
    private static final int[] WILD = {Integer.MIN_VALUE, Integer.MAX_VALUE, -1000000, -65, -2, -1, 8, 9, 10, 100, 256,
        1000, 9999, 10000, 99999, 100000, 1000000};

    private final Map<String, Method> methods = new TreeMap<>();
    private final Map<String, Integer> plainAnswers = new TreeMap<>();
    private final Map<String, Integer> findings = new TreeMap<>();
    private Random random;
    private CareRules rules;
    private Model model;
    private List<String> log;
    private boolean wrong;
    private int most;

    public static void main(String[] args) throws Exception {
        boolean good = new RandomRunsTest().runAll();
        if (!good) {
            System.exit(1);
        }
    }

    private boolean runAll() throws Exception {
        for (Method m : CareRules.class.getMethods()) {
            if (m.getDeclaringClass() == CareRules.class) {
                methods.put(m.getName(), m);
            }
        }
        for (int run = 0; run < RUNS && !wrong; run++) {
            random = new Random(run);
            rules = new CareRules();
            model = new Model();
            log = new ArrayList<>();
            // Now and then a large field, so that all cells are used; mostly a small one, so that RESTS are many.
            most = run % 60 == 0 ? 8 : 1 + run % 4;
            oneRun(run);
        }
        System.out.println("answers: " + plainAnswers);
        System.out.println("findings: " + findings);
        boolean idle = methods.keySet().stream().anyMatch(name -> plainAnswers.getOrDefault(name, 0) < 100);
        if (idle) {
            System.out.println("some call was hardly ever answered");
        }
        return !wrong && !idle;
    }

    private void oneRun(int run) throws Exception {
        if (random.nextInt(10) > 0) {
            prepare();
        }
        List<String> names = new ArrayList<>(methods.keySet());
        // The wide fields are dear in the model, so these runs are short.
        int calls = most == 8 ? 60 : 260;
        for (int k = 0; k < calls && !wrong; k++) {
            String name = names.get(random.nextInt(names.size()));
            if (name.equals("edge") && most == 8) {
                continue;
            }
            switch (name) {
                case "harm" -> feedText(harmText());
                case "told" -> feedText(toldText());
                case "read" -> writeRests();
                case "copy" -> makeSheets();
                default -> { }
            }
            does(name, argsFor(name));
        }
        if (wrong) {
            System.out.println("run " + run + ":");
            log.forEach(System.out::println);
        }
    }

    private void prepare() throws Exception {
        for (int who = 0; who < 2; who++) {
            int cares = most == 8 ? 8 : 1 + random.nextInt(most);
            int goings = most == 8 ? 3 : random.nextInt(3);
            for (int k = 0; k < cares; k++) {
                does("care", who, random.nextInt(20));
            }
            for (int k = 0; k < goings; k++) {
                does("going", who, random.nextInt(60));
            }
        }
        feedText(random.nextBoolean() ? harmText() : "chance 30-a*8-b*4;size 40+g*h;");
        does("harm");
        does("rule", 0, 0, 0);
        does("rule", 1, 0, 0);
        does("rule", 2, random.nextInt(4), 0);
        does("rule", 3, random.nextInt(4) * 10 + random.nextInt(4), random.nextInt(9));
        does("rule", 4, random.nextInt(4), 0);
        does("cover", random.nextInt(5), random.nextInt(9));
        does("cover", random.nextInt(6), random.nextInt(9));
        feedText(toldText());
        does("told");
    }

    /** Right RESTS now and then, so that read() has something to say. */
    private void writeRests() throws Exception {
        int rule = random.nextInt(4);
        List<Integer> rests = model.peekRests(rule);
        if (rests == null || random.nextInt(3) == 0) {
            return;
        }
        int s = random.nextInt(4);
        int size = Math.max(0, Math.min(40, rests.size() + random.nextInt(5) / 3 - random.nextInt(5) / 3));
        does("sheet", s, random.nextInt(4) == 0 ? 8 : random.nextBoolean() ? 16 : 64, size);
        for (int k = 0; k < Math.min(rests.size(), size); k++) {
            long v = random.nextInt(12) == 0 ? random.nextInt(99) : rests.get(k);
            does("write", s, k, v);
        }
        does("read", s, rule);
    }

    /** Sheets of like bits, so that copy() is not always refused. */
    private void makeSheets() throws Exception {
        int bits = random.nextBoolean() ? 8 : 64;
        for (int s = random.nextInt(4); s < 4; s++) {
            does("sheet", s, bits, 5 + random.nextInt(30));
            for (int k = 0; k < 4; k++) {
                does("write", s, random.nextInt(12), random.nextInt(400));
            }
        }
    }

    private void does(String name, long... args) throws Exception {
        Method m = methods.get(name);
        Object[] given = new Object[args.length];
        StringBuilder told = new StringBuilder(name + "(");
        for (int k = 0; k < args.length; k++) {
            boolean isLong = m.getParameterTypes()[k] == long.class;
            given[k] = isLong ? (Object) args[k] : (Object) (int) args[k];
            told.append(k == 0 ? "" : ", ").append(given[k]);
        }
        if (log.size() >= 512 || wrong) {
            return;
        }
        long due = model.call(name, args);
        String got;
        try {
            got = "" + ((Number) m.invoke(rules, given)).longValue();
        } catch (InvocationTargetException x) {
            got = "thrown " + x.getCause();
        }
        log.add(told + ") answered " + got + ", due is " + due);
        wrong = !got.equals("" + due);
        boolean found = due <= -1000000001 && due >= -1000000007;
        (found ? findings : plainAnswers).merge(name + (found ? (due + 1000000000) : ""), 1, Integer::sum);
    }

    private long[] argsFor(String name) {
        int count = methods.get(name).getParameterCount();
        long[] args = new long[count];
        for (int k = 0; k < count; k++) {
            args[k] = random.nextInt(25) == 0 ? WILD[random.nextInt(WILD.length)] : argFor(name, k);
        }
        return args;
    }

    private long argFor(String name, int k) {
        switch (name + k) {
            case "care0": case "going0": case "answer1":
                return random.nextInt(2);
            case "care1":
                return random.nextInt(10) == 0 ? random.nextInt(1002) : random.nextInt(20);
            case "going1":
                return random.nextInt(10) == 0 ? random.nextInt(10002) : random.nextInt(60);
            case "feed0":
                return random.nextInt();
            case "feed1":
                return 1 + random.nextInt(4);
            case "hurt0": case "cost1": case "plain0": case "answer2": case "judge1": case "settle1":
                return random.nextInt(most) * 1000 + random.nextInt(most) * 100 + random.nextInt(3) * 10
                    + random.nextInt(3);
            case "hurt1":
                return random.nextInt(2);
            case "rule0":
                return random.nextInt(6);
            case "rule1":
                return random.nextInt(3) == 0 ? random.nextInt(90) : random.nextInt(9);
            case "rule2": case "cover1":
                return random.nextInt(10);
            case "cover0": case "of0": case "as0": case "due0": case "cost0": case "answer0": case "rest0":
            case "judge0": case "lost0": case "how0": case "worst0": case "keeps0": case "breach0": case "agree0":
            case "talk0": case "settle0": case "edge0": case "edge1": case "read1":
                return random.nextInt(9);
            case "of1":
                return random.nextInt(6);
            case "as1":
                return random.nextInt(7);
            case "due1": case "due2":
                return random.nextInt(8);
            case "due3":
                return random.nextInt(3);
            case "set0":
                return random.nextInt(5);
            case "set1":
                return random.nextInt(2) == 0 ? random.nextInt(9) : random.nextInt(100) - 40;
            case "cost2":
                return random.nextInt(4);
            case "best0": case "rest1": case "lost1": case "how1":
                return random.nextInt(5) - 1;
            case "find0":
                return 2 + 2 * random.nextInt(2);
            case "keeps1": case "breach1":
                return random.nextInt(3);
            case "settle2":
                return random.nextInt(120);
            default:
                return otherArgFor(name, k);
        }
    }

    private long otherArgFor(String name, int k) {
        switch (name + k) {
            case "many0": case "part2":
                return random.nextInt(8);
            case "many1":
                return random.nextInt(10) == 0 ? random.nextInt(101) : random.nextInt(9);
            case "whose0": case "part0":
                return random.nextInt(257);
            case "whose1":
                return random.nextInt(30);
            case "part1":
                return random.nextInt(200);
            case "sheet0": case "write0": case "copy0": case "copy2": case "read0":
                return random.nextInt(4);
            case "sheet1":
                return new int[] {0, 8, 8, 16, 16, 64, 64, 64, 7}[random.nextInt(9)];
            case "sheet2":
                return random.nextInt(43) - 1;
            case "write1": case "copy1": case "copy3":
                return random.nextInt(20) - 1;
            case "write2":
                return random.nextInt(3) == 0 ? random.nextLong() : random.nextInt(400) - 200;
            case "copy4":
                return random.nextInt(12) - 1;
            case "look0": case "status0":
                return random.nextInt(9) - 1;
            default:
                throw new IllegalStateException(name + k);
        }
    }

    private void feedText(String text) throws Exception {
        // A tape that is left over now and then makes a FAULT; mostly it is wiped.
        if (random.nextInt(8) > 0) {
            does("wipe");
        }
        String fed = random.nextInt(5) == 0 ? spoilt(text) : text;
        byte[] bytes = fed.getBytes(StandardCharsets.ISO_8859_1);
        for (int at = 0; at < bytes.length; ) {
            int n = Math.min(1 + random.nextInt(4), bytes.length - at);
            int word = random.nextInt();
            for (int k = 0; k < n; k++) {
                word = word << 8 | bytes[at + k] & 255;
            }
            does("feed", word, n);
            at += n;
        }
    }

    private String spoilt(String text) {
        int at = random.nextInt(text.length() + 1);
        String bad = new String[] {"", "A", "\t", "99999", "x", "(", ")", "-", ";", " ", "<", "chance", "\u00e9",
            "00012", "10000"}[random.nextInt(15)];
        int skip = random.nextInt(3) == 0 ? 1 : 0;
        return text.substring(0, at) + bad + text.substring(Math.min(text.length(), at + skip));
    }

    /** Mostly one that the tape has room for. */
    private String shortOne(Supplier<String> texts) {
        String text = texts.get();
        for (int k = 0; k < 20 && text.length() > 110; k++) {
            text = texts.get();
        }
        return text;
    }

    private String harmText() {
        return shortOne(this::anyHarmText);
    }

    private String toldText() {
        return shortOne(() -> "pays " + e(0));
    }

    private String anyHarmText() {
        return "chance " + (random.nextBoolean() ? e(0) : "64-a*" + random.nextInt(30)) + blanks() + ";"
            + "size " + (random.nextBoolean() ? e(0) : "90-b*9+g") + ";" + blanks();
    }

    private String blanks() {
        return " ".repeat(random.nextInt(4) / 3 * 2);
    }

    private String e(int depth) {
        String sum = sum(depth);
        return random.nextInt(4) == 0 ? sum + (random.nextBoolean() ? "<" : "=") + sum(depth) : sum;
    }

    private String sum(int depth) {
        String s = term(depth);
        for (int k = random.nextInt(3); k > 0; k--) {
            s += blanks() + (random.nextBoolean() ? "+" : "-") + term(depth);
        }
        return s;
    }

    private String term(int depth) {
        String s = one(depth);
        for (int k = random.nextInt(4) / 2; k > 0; k--) {
            s += (random.nextInt(3) > 0 ? "*" : "/") + blanks() + one(depth);
        }
        return s;
    }

    private String one(int depth) {
        int kind = random.nextInt(depth > 9 ? 6 : 9);
        if (kind < 3) {
            return "" + (random.nextInt(6) == 0 ? random.nextInt(10000) : random.nextInt(60));
        }
        if (kind < 6) {
            return "" + "abgh".charAt(random.nextInt(4));
        }
        return kind < 8 ? "(" + e(depth + 1) + ")" : "-" + one(depth + 1);
    }
}
