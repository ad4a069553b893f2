import java.util.ArrayList;
import java.util.List;

/**
 * All that can be told of an object by calls, in parts, each short enough for one object: two objects with the same
 * traces are in the same state. A trace spends its object, for it sets and writes to learn what was there.
 */
final class Traces {
    static final int PARTS = 7;

    private Traces() {
    }

    static List<Long> of(CareRules x, int part) {
        List<Long> trace = new ArrayList<>();
        switch (part) {
            case 0 -> settings(x, trace);
            case 1 -> field(x, trace);
            case 2 -> rules(x, trace);
            case 3 -> costs(x, trace);
            case 4 -> sheets(x, trace);
            case 5 -> tape(x, trace);
            default -> image(x, trace);
        }
        return trace;
    }

    private static void settings(CareRules x, List<Long> trace) {
        for (int what = 0; what <= 6; what++) {
            trace.add((long) x.look(what));
        }
        for (int what = 0; what <= 4; what++) {
            trace.add((long) x.set(what, 1));
        }
        for (int k = 0; k < 8; k++) {
            trace.add((long) x.many(k, 1));
        }
    }

    /** DOINGS that there are, at most so many of them, the last among them. */
    private static List<Integer> doings(CareRules x, int most) {
        int[] counts = {x.look(0), x.look(1), x.look(2), x.look(3)};
        List<Integer> all = new ArrayList<>();
        for (int doings = 0; doings < 8000; doings++) {
            boolean there = doings / 1000 < counts[0] && doings / 100 % 10 < counts[1]
                && doings / 10 % 10 < counts[2] && doings % 10 < counts[3];
            if (there) {
                all.add(doings);
            }
        }
        List<Integer> some = new ArrayList<>();
        int step = Math.max(1, (all.size() + most - 1) / most);
        for (int k = all.size() - 1; k >= 0; k -= step) {
            some.add(all.get(k));
        }
        return some;
    }

    private static void field(CareRules x, List<Long> trace) {
        for (int doings : doings(x, 80)) {
            trace.add((long) x.hurt(doings, 0));
            trace.add((long) x.hurt(doings, 1));
            trace.add(x.plain(doings));
        }
        trace.add(x.least());
        trace.add((long) x.best(-1));
    }

    private static void rules(CareRules x, List<Long> trace) {
        int rules = x.look(4);
        for (int rule = 0; rule <= rules; rule++) {
            for (int what = 0; what <= 5; what++) {
                trace.add((long) x.of(rule, what));
            }
            for (int pair = 0; pair < 64; pair += rules > 8 ? 13 : 5) {
                trace.add((long) x.due(rule, pair / 8, pair % 8, 0));
                trace.add((long) x.due(rule, pair / 8, pair % 8, 2));
            }
        }
    }

    private static void costs(CareRules x, List<Long> trace) {
        int rules = x.look(4);
        for (int rule = 0; rule < rules; rule++) {
            for (int doings : doings(x, 4)) {
                for (int who = 0; who <= 3; who++) {
                    trace.add(x.cost(rule, doings, who));
                }
            }
            trace.add((long) x.rest(rule, -1));
        }
    }

    private static void sheets(CareRules x, List<Long> trace) {
        for (int s = 0; s < 4; s++) {
            for (int i = 0; i <= 40; i++) {
                trace.add(x.write(s, i, 0x123456789abcdL));
            }
            // What was kept of that number tells the bits.
            trace.add(x.write(s, 0, 0));
        }
    }

    private static void tape(CareRules x, List<Long> trace) {
        trace.add((long) x.look(6));
        trace.add((long) x.told());
        trace.add((long) x.look(6));
        trace.add((long) x.harm());
        trace.add((long) x.look(6));
        rules(x, trace);
        trace.add((long) x.hurt(0, 0));
        trace.add((long) x.wipe());
    }

    private static void image(CareRules x, List<Long> trace) {
        trace.add((long) x.undo());
        settings(x, trace);
        rules(x, trace);
        trace.add((long) x.tear());
        trace.add((long) x.undo());
    }
}
