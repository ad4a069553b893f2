import com.sun.management.ThreadMXBean;
import java.lang.management.ManagementFactory;

/** What a run makes: an object and 512 of the dearest calls stay far below the room that all calls of a run share. */
public final class RoomTest {
    // The room has 7.3 million fields and elements; a tenth of it, at 8 bytes each.
    private static final long MOST_BYTES = 730_000L * 8;
    private static final ThreadMXBean BEAN = (ThreadMXBean) ManagementFactory.getThreadMXBean();
    private static int wrong = 0;

    private interface Act {
        void on(CareRules rules);
    }

    public static void main(String[] args) {
        // First all once, so that what loading classes makes isn't counted.
        measure("warming up", x -> x.find(2), false);
        measure("told", x -> {
            fillTape(x, "pays ");
            expect(x.told(), 2);
            x.undo();
        }, true);
        measure("harm", x -> {
            fillTape(x, "chance 1+1+1+1+1;size ");
            expect(x.harm(), 1);
        }, true);
        measure("rule", x -> {
            x.rule(3, 44, 4);
            x.undo();
        }, true);
        measure("cover", x -> {
            x.cover(0, 4);
            x.undo();
        }, true);
        measure("find", x -> x.find(4), true);
        measure("rest", x -> x.rest(1, 0), true);
        measure("image", CareRules::image, true);
        measure("sheet", x -> x.sheet(0, 64, 40), true);
        measureEdge();
        if (wrong != 0) {
            System.exit(1);
        }
    }

    private static CareRules widest() {
        CareRules x = new CareRules();
        for (int k = 0; k < 8; k++) {
            x.care(0, k);
            x.care(1, k);
            x.going(0, 9 * k);
            x.going(1, 9 * k);
        }
        x.rule(1, 0, 0);
        x.rule(2, 4, 0);
        x.image();
        return x;
    }

    private static void fillTape(CareRules x, String head) {
        x.wipe();
        for (int i = 0; i < head.length(); i++) {
            x.feed(head.charAt(i), 1);
        }
        while (x.look(6) < 117) {
            x.feed('a' << 8 | '+', 2);
        }
        x.feed(head.startsWith("chance") ? 'a' << 8 | ';' : 'a', head.startsWith("chance") ? 2 : 1);
    }

    private static void expect(int got, int due) {
        if (got != due) {
            wrong++;
            System.out.println("answered " + got + ", due is " + due);
        }
    }

    private static void measure(String what, Act act, boolean counts) {
        long before = BEAN.getCurrentThreadAllocatedBytes();
        CareRules x = widest();
        for (int k = 0; k < 512; k++) {
            act.on(x);
        }
        tell(what, BEAN.getCurrentThreadAllocatedBytes() - before, counts);
    }

    /** The dearest in time: once is enough to see that it makes nothing. */
    private static void measureEdge() {
        CareRules x = widest();
        long before = BEAN.getCurrentThreadAllocatedBytes();
        x.edge(0, 0);
        long made = BEAN.getCurrentThreadAllocatedBytes() - before;
        tell("edge", 512 * made, true);
    }

    private static void tell(String what, long bytes, boolean counts) {
        System.out.println(what + ": " + bytes + " bytes");
        if (counts && bytes > MOST_BYTES) {
            wrong++;
            System.out.println("too many for " + what);
        }
    }
}
