import java.nio.charset.StandardCharsets;

/** Where tests begin. */
final class Scenes {
    private Scenes() {
    }

    static void nothing(CareRules x) {
        // A new object is a scene, too.
    }

    /** Four bytes a call, so that a scene takes few of an object's calls. */
    static void feed(CareRules x, String text) {
        byte[] bytes = text.getBytes(StandardCharsets.ISO_8859_1);
        for (int i = 0; i < bytes.length; i += 4) {
            int n = Math.min(4, bytes.length - i);
            int four = 0;
            for (int k = 0; k < n; k++) {
                four = four << 8 | bytes[i + k] & 255;
            }
            x.feed(four, n);
        }
    }

    static long harm(CareRules x, String text) {
        x.wipe();
        feed(x, text);
        return x.harm();
    }

    static long told(CareRules x, String text) {
        x.wipe();
        feed(x, text);
        return x.told();
    }

    static void cares(CareRules x, int who, int... prices) {
        for (int price : prices) {
            x.care(who, price);
        }
    }

    static void goings(CareRules x, int who, int... gains) {
        for (int gain : gains) {
            x.going(who, gain);
        }
    }

    /** Something of everything, so that whatever a refused call would change shows. */
    static void town(CareRules x) {
        cares(x, 0, 0, 2, 5);
        cares(x, 1, 0, 3);
        goings(x, 0, 30);
        goings(x, 1, 12, 13);
        x.rule(0, 0, 0);
        x.rule(1, 0, 0);
        x.many(4, 44);
        x.set(2, 3);
        x.image();
        x.set(0, 3);
        x.set(1, 18);
        x.set(3, 2);
        x.set(4, -1);
        x.many(0, 5);
        x.many(1, 3);
        x.many(2, 3);
        x.rule(2, 2, 0);
        x.rule(3, 21, 3);
        x.rule(4, 1, 0);
        x.cover(1, 3);
        told(x, "pays 8*(2-a)+b");
        harm(x, "chance 32-a*14-b*4;size 20;");
        sheets(x);
        feed(x, "pays 7*a+3*b");
    }

    private static void sheets(CareRules x) {
        x.sheet(0, 8, 5);
        x.sheet(1, 16, 3);
        x.sheet(2, 64, 4);
        for (int i = 0; i < 3; i++) {
            x.write(0, i, 10 + i);
            x.write(1, i, 20 + i);
            x.write(2, i, 30 + i);
        }
    }

    /** The town with all CARES, GOINGS and RULES that there may be, and THE TAPE full but for two bytes. */
    static void fullTown(CareRules x) {
        town(x);
        for (int k = 0; k < 8; k++) {
            x.care(0, k);
            x.care(1, k);
            x.going(0, k);
            x.going(1, k);
        }
        while (x.look(4) < 20) {
            x.cover(x.look(4) - 1, 1);
        }
        feed(x, " ".repeat(118 - x.look(6)));
    }

    /** The TWO with a CARE each, and nothing else. */
    static void pair(CareRules x) {
        x.care(0, 0);
        x.care(1, 0);
    }

    /** RULES, but only 0 has a CARE. */
    static void onlyDoer(CareRules x) {
        x.rule(1, 0, 0);
        x.rule(0, 0, 0);
        x.care(0, 1);
        x.sheet(0, 8, 2);
    }

    /** RULES, but only 1 has a CARE. */
    static void onlyOther(CareRules x) {
        x.rule(1, 0, 0);
        x.rule(0, 0, 0);
        x.care(1, 1);
        x.sheet(0, 8, 2);
    }

    /** By RULE 0 one wants to do as the other does and the other doesn't want that: no RESTS. */
    static void chase(CareRules x) {
        cares(x, 0, 0, 1);
        cares(x, 1, 0, 1);
        goings(x, 0, 500);
        goings(x, 1, 500);
        told(x, "pays 64*(a=b)");
        x.rule(1, 0, 0);
        harm(x, "chance 64;size 50;");
        x.sheet(0, 16, 2);
    }

    /** All DOINGS that there may be, all of them BEST, and RESTS by RULE 0. */
    static void allAlike(CareRules x) {
        for (int k = 0; k < 8; k++) {
            x.care(0, 0);
            x.care(1, 0);
        }
        goings(x, 0, 0, 0, 0);
        goings(x, 1, 0, 0, 0);
        x.rule(0, 0, 0);
    }
}
