import java.io.IOException;
import java.nio.charset.StandardCharsets;
import java.nio.file.Files;
import java.nio.file.Path;
import java.util.ArrayList;
import java.util.List;
import java.util.Map;
import java.util.Set;
import java.util.TreeMap;
import java.util.TreeSet;

/**
 * Asks answers under the sentence of the document that they hang on. A sentence is told by its own words, which must
 * stand in the document; TERMS is the number of the section ahead of the promises.
 */
final class Sentences {
    static final int TERMS = 0;
    static final int PROMISES = 43;
    static final long BEYOND = -1000000001, FULL = -1000000002, KIND = -1000000003, NONE = -1000000004,
        STATE = -1000000005, MISSING = -1000000006, SIZE = -1000000007;
    static final String[] NAMES = {"BEYOND", "FULL", "KIND", "NONE", "STATE", "MISSING", "SIZE"};

    /** Calls that bring a new object to where a test begins. */
    interface Scene {
        void on(CareRules x);
    }

    /** The call that is tested. */
    interface Act {
        long on(CareRules x);
    }

    /** The same with one argument open. */
    interface OpenAct {
        long on(CareRules x, int v);
    }

    private final Map<Integer, String> sections;
    private final Map<Integer, Set<String>> refused = new TreeMap<>();
    private final Map<Integer, List<String>> quoted = new TreeMap<>();
    private int promise = TERMS;
    private String words = "";
    private int askedHere = 1;
    private int asked = 0;
    private int told = 0;
    private int wrong = 0;

    Sentences(Path document) throws IOException {
        sections = sectionsOf(Files.readString(document, StandardCharsets.UTF_8));
    }

    private static Map<Integer, String> sectionsOf(String document) {
        Map<Integer, String> found = new TreeMap<>();
        int at = TERMS;
        StringBuilder text = new StringBuilder();
        for (String line : document.split("\n")) {
            if (line.startsWith("## Promise ")) {
                found.put(at, flat(text));
                text.setLength(0);
                at = Integer.parseInt(line.substring(11, line.indexOf(':')));
            } else if (line.startsWith("## Not promised")) {
                break;
            }
            text.append(line).append(' ');
        }
        found.put(at, flat(text));
        return found;
    }

    private static String flat(CharSequence text) {
        return text.toString().replaceAll("\\s+", " ");
    }

    /** From here on answers hang on these words of a promise. */
    void sentence(int number, String itsWords) {
        if (askedHere == 0) {
            fail("nothing was asked of this sentence");
        }
        promise = number;
        words = itsWords;
        askedHere = 0;
        told++;
        quoted.computeIfAbsent(number, n -> new ArrayList<>()).add(flat(itsWords));
        if (!sections.getOrDefault(number, "").contains(flat(itsWords))) {
            fail("the document doesn't say this here");
        }
    }

    void is(String what, long got, long due) {
        asked++;
        askedHere++;
        if (got != due) {
            fail(what + " answered " + got + ", due is " + due);
        }
    }

    void answers(String what, Scene scene, Act act, long due) {
        CareRules x = new CareRules();
        scene.on(x);
        is(what, act.on(x), due);
    }

    /** The call answers the finding, status() counts it once, and all else stays as if it had not been called. */
    void refuses(String what, Scene scene, Act act, long finding) {
        int place = (int) (BEYOND - finding);
        refused.computeIfAbsent(promise, p -> new TreeSet<>()).add(NAMES[place]);
        CareRules x = new CareRules();
        scene.on(x);
        long[] before = counts(x);
        is(what, act.on(x), finding);
        long[] after = counts(x);
        for (int k = 0; k < before.length; k++) {
            is(what + ": status(" + (k - 1) + ")", after[k], before[k] + (k == 0 || k - 1 == place ? 1 : 0));
        }
        staysAsItWas(what, scene, act);
    }

    /** The call answers this, which is no finding, and changes nothing that can be told. */
    void changesNothing(String what, Scene scene, Act act, long due) {
        CareRules x = new CareRules();
        scene.on(x);
        long[] before = counts(x);
        is(what, act.on(x), due);
        long[] after = counts(x);
        for (int k = 0; k < before.length; k++) {
            is(what + ": status(" + (k - 1) + ")", after[k], before[k]);
        }
        staysAsItWas(what, scene, act);
    }

    private void staysAsItWas(String what, Scene scene, Act act) {
        for (int part = 0; part < Traces.PARTS; part++) {
            CareRules with = new CareRules();
            CareRules without = new CareRules();
            scene.on(with);
            scene.on(without);
            act.on(with);
            is(what + ": what stays, part " + part, firstUnlike(Traces.of(with, part), Traces.of(without, part)), -1);
        }
    }

    private static int firstUnlike(List<Long> a, List<Long> b) {
        for (int k = 0; k < Math.min(a.size(), b.size()); k++) {
            if (!a.get(k).equals(b.get(k))) {
                return k;
            }
        }
        return a.size() == b.size() ? -1 : Math.min(a.size(), b.size());
    }

    /** An argument may be least to most: these two are taken, the next ones and those far off are BEYOND. */
    void within(String what, Scene scene, OpenAct act, int least, int most) {
        for (int v : new int[] {least, most}) {
            CareRules x = new CareRules();
            scene.on(x);
            is(what + " " + v + " is taken", act.on(x, v) == BEYOND ? 0 : 1, 1);
        }
        for (int v : new int[] {least - 1, most + 1, Integer.MIN_VALUE, Integer.MAX_VALUE}) {
            refuses(what + " " + v, scene, x -> act.on(x, v), BEYOND);
        }
    }

    static boolean isFinding(long answer) {
        return answer <= BEYOND && answer >= SIZE;
    }

    private static long[] counts(CareRules x) {
        long[] counts = new long[8];
        for (int which = -1; which < 7; which++) {
            counts[which + 1] = x.status(which);
        }
        return counts;
    }

    private void fail(String what) {
        wrong++;
        System.out.println((promise == TERMS ? "terms" : "promise " + promise) + ", \"" + words + "\": " + what);
    }

    /** Fails if a finding that a promise names was not asked; notAsked are those that no call answers there. */
    void askForAllFindings(Set<String> notAsked) {
        for (promise = 1; promise <= PROMISES; promise++) {
            words = "";
            for (String name : missingOf(promise)) {
                if (!notAsked.contains(promise + " " + name)) {
                    fail("it names " + name + ", which was never asked");
                }
            }
        }
    }

    /** Fails if a part of a section was not quoted that has a number or a word in capitals. */
    void askForAllWords(int number) {
        promise = number;
        words = "";
        String left = bodyOf(number);
        List<String> quotes = new ArrayList<>(quoted.getOrDefault(number, List.of()));
        quotes.sort((a, b) -> b.length() - a.length());
        for (String quote : quotes) {
            left = left.replace(quote, " | ");
        }
        for (String part : left.split("\\|")) {
            if (part.matches(".*([0-9]|[A-Z]{2}).*")) {
                fail("no test quotes '" + part.trim() + "'");
            }
        }
    }

    /** A section without its heading, its call, the numbers of its points, and what the interface says in between. */
    private String bodyOf(int number) {
        String text = sections.getOrDefault(number, "");
        text = text.substring(Math.max(0, text.indexOf("## Terms")));
        return text.replaceFirst("^## Promise \\d+: [\\w ]+? `[^`]*`:", "").replaceAll("```(text)?", " ")
            .replaceAll(" [1-4]\\. (?=TWO:|RULES 0|By a RULE|LAWS)", " ").replaceAll("Ahead of the calls .*", "");
    }

    boolean end() {
        if (askedHere == 0) {
            fail("nothing was asked of this sentence");
        }
        System.out.println(told + " sentences, " + asked + " answers asked, " + wrong + " wrong");
        return wrong == 0;
    }

    private List<String> missingOf(int number) {
        List<String> missing = new ArrayList<>();
        String text = sections.getOrDefault(number, "").replaceFirst("^## Promise \\d+: \\w+", "");
        for (String name : NAMES) {
            boolean named = text.matches(".*\\b" + name + "\\b.*");
            if (named && !refused.getOrDefault(number, Set.of()).contains(name)) {
                missing.add(name);
            }
        }
        return missing;
    }
}
