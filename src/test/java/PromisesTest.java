import java.nio.charset.StandardCharsets;

/** Each promise by its number, with answers reckoned by hand: ordinary inputs, edges, wrong inputs. */
public final class PromisesTest {
    private static final long BEYOND = -1000000001, FULL = -1000000002, KIND = -1000000003, NONE = -1000000004,
        STATE = -1000000005, MISSING = -1000000006, SIZE = -1000000007;
    private static final int MIN = Integer.MIN_VALUE, MAX = Integer.MAX_VALUE;
    private static final long UNIT = 32768;

    private static int wrong = 0;
    private static int asked = 0;
    private static int promise = 0;
    private static CareRules x;

    public static void main(String[] args) {
        p1();
        p2();
        p3();
        p4();
        p5();
        p6();
        p6Faults();
        p6Values();
        p7();
        p8();
        p9();
        p10();
        p11();
        p12();
        p13();
        p14();
        p15();
        p15Law();
        p16();
        p17();
        p18();
        p19();
        p20();
        p21();
        p22();
        p23();
        p24();
        p25();
        p26();
        p27();
        p28();
        p29();
        p30();
        p31();
        p31Ends();
        p32();
        p33();
        p34();
        p35();
        p36();
        p37();
        p38();
        p39();
        p40();
        p41();
        p42();
        p43();
        System.out.println(asked + " answers asked, " + wrong + " wrong");
        if (wrong != 0) {
            System.exit(1);
        }
    }

    private static void begin(int number) {
        promise = number;
        x = new CareRules();
    }

    /** Asks one answer; what tells where. */
    private static void is(String what, long got, long due) {
        asked++;
        if (got != due) {
            wrong++;
            System.out.println("promise " + promise + ": " + what + " answered " + got + ", due is " + due);
        }
    }

    private static void feed(String text) {
        byte[] bytes = text.getBytes(StandardCharsets.ISO_8859_1);
        for (int i = 0; i < bytes.length; i++) {
            x.feed(bytes[i], 1);
        }
    }

    private static long harm(String text) {
        x.wipe();
        feed(text);
        return x.harm();
    }

    private static long told(String text) {
        x.wipe();
        feed(text);
        return x.told();
    }

    /** CARES with these PRICES. */
    private static void cares(int who, int... prices) {
        for (int price : prices) {
            x.care(who, price);
        }
    }

    private static void goings(int who, int... gains) {
        for (int gain : gains) {
            x.going(who, gain);
        }
    }

    /** CARES 0, 2, 5 and 0, 3, GOINGS 0, 30 and 0, 12, CHANCE 32, 18, 4 by CARE of 0 less 4 by CARE of 1, HURT 20. */
    private static void street(int number) {
        begin(number);
        cares(0, 0, 2, 5);
        cares(1, 0, 3);
        goings(0, 30);
        goings(1, 12);
        harm("chance 32-a*14-b*4;size 20;");
    }

    private static void p1() {
        begin(1);
        is("cares of 0", x.look(0), 0);
        is("cares of 1", x.look(1), 0);
        is("goings of 0", x.look(2), 1);
        is("goings of 1", x.look(3), 1);
        is("rules", x.look(4), 0);
        is("harm", x.look(5), 0);
        is("tape", x.look(6), 0);
        is("undo", x.undo(), NONE);
        is("tear", x.tear(), 0);
        is("purse", x.set(1, 9999), 9999);
        is("wrong", x.set(0, 0), 0);
        is("law of 0", x.set(2, 0), 0);
        is("law of 1", x.set(3, 0), 0);
        is("shift", x.set(4, 0), 0);
        for (int k = 0; k < 8; k++) {
            is("weight", x.many(k, 0), 0);
        }
        for (int s = 0; s < 4; s++) {
            is("sheet", x.write(s, 0, 0), MISSING);
        }
        is("status", x.status(-1), 5);
    }

    private static void p2() {
        begin(2);
        is("who -1", x.care(-1, 0), BEYOND);
        is("who 2", x.care(2, 0), BEYOND);
        is("who MIN", x.care(MIN, 0), BEYOND);
        is("price -1", x.care(0, -1), BEYOND);
        is("price 1000", x.care(1, 1000), BEYOND);
        is("nothing came", x.look(0) + x.look(1), 0);
        for (int k = 0; k < 8; k++) {
            is("care " + k, x.care(0, k == 0 ? 999 : k), k);
        }
        is("ninth", x.care(0, 0), FULL);
        is("BEYOND before FULL", x.care(0, 1000), BEYOND);
        is("the other has its own", x.care(1, 0), 0);
        is("count", x.look(0), 8);
        goings(0, 0);
        is("price of 0", x.plain(10), 999 * UNIT);
        is("price of 7", x.plain(7010), 7 * UNIT);
    }

    private static void p3() {
        begin(3);
        is("who", x.going(2, 0), BEYOND);
        is("who -1", x.going(-1, 0), BEYOND);
        is("gain -1", x.going(0, -1), BEYOND);
        is("gain 10000", x.going(0, 10000), BEYOND);
        is("first", x.going(1, 9999), 1);
        is("second", x.going(1, 0), 2);
        is("third", x.going(1, 5), 3);
        is("fourth", x.going(1, 5), FULL);
        is("BEYOND before FULL", x.going(1, 10000), BEYOND);
        is("goings of 1", x.look(3), 4);
        is("goings of 0", x.look(2), 1);
        cares(0, 0);
        cares(1, 0);
        is("gain of 1", x.plain(1), -9999 * UNIT);
        is("gain of 3", x.plain(3), -5 * UNIT);
    }

    private static void p4() {
        begin(4);
        is("n 0", x.feed(7, 0), BEYOND);
        is("n 5", x.feed(7, 5), BEYOND);
        is("n MIN", x.feed(7, MIN), BEYOND);
        is("highest first", x.feed('p' << 24 | 'a' << 16 | 'y' << 8 | 's', 4), 4);
        is("lowest of them", x.feed('?' << 24 | '?' << 16 | ' ' << 8 | '7', 2), 6);
        is("told", x.told(), 0);
        is("due", x.due(0, 0, 0, 0), 7);
        for (int k = 1; k <= 29; k++) {
            is("feed", x.feed(-1, 4), 4 * k);
        }
        is("119", x.feed(0, 3), 119);
        is("no room for 2", x.feed(0, 2), FULL);
        is("BEYOND before FULL", x.feed(0, 5), BEYOND);
        is("120", x.feed(0, 1), 120);
        is("no room for 1", x.feed(0, 1), FULL);
        is("tape stays", x.look(6), 120);
    }

    private static void p5() {
        begin(5);
        is("empty", x.wipe(), 0);
        feed("abc");
        is("three", x.wipe(), 3);
        is("none", x.look(6), 0);
        is("again", x.wipe(), 0);
    }

    private static void p6() {
        begin(6);
        is("read", harm("chance 8;size 9;"), 1);
        is("tape is empty then", x.look(6), 0);
        is("harm is there", x.look(5), 1);
        cares(0, 0);
        cares(1, 0);
        is("fault", harm("chance 7;size 6"), -16);
        is("tape stays", x.look(6), 15);
        is("the old one stays", x.hurt(0, 0), 8);
        is("no finding", x.status(-1), 0);
        is("the rest of it", x.feed(';', 1), 16);
        is("whole", x.harm(), 1);
        is("the new one", x.hurt(0, 1), 6);
    }

    private static void fault(String text, int place) {
        is("FAULT of '" + text + "'", harm(text), -1 - place);
    }

    private static void good(String text) {
        is("'" + text + "'", harm(text), 1);
    }

    private static void p6Faults() {
        begin(6);
        fault("", 0);
        fault("   ", 3);
        fault("size 1;", 0);
        fault("pays 1", 0);
        fault("chance", 6);
        fault("chance ", 7);
        fault("chance;", 6);
        fault("chance 1", 8);
        fault("chance 1 2", 9);
        fault("chance 1;", 9);
        fault("chance 1;chance", 9);
        fault("chance 1;size", 13);
        fault("chance 1;size;", 13);
        fault("chance 1;size 1", 15);
        fault("chance 1;size 1;;", 16);
        fault("chance 1;size 1; x", 17);
        good("chance 1;size 1;  ");
        good("chance1;size1;");
        good("  chance  1  ;  size  1  ;  ");
        fault("chances 1;size 1;", 0);
        fault("chance ab;size 1;", 7);
        fault("chance c;size 1;", 7);
        fault("chance -x1;size 1;", 8);
        fault("chance (x1);size 1;", 8);
        fault("chance A;size 1;", 7);
        fault("chance a\tb;size 1;", 8);
        fault("chance \u00e9;size 1;", 7);
        good("chance 9999;size 9999;");
        fault("chance 10000;size 1;", 7);
        good("chance 00009999;size 1;");
        fault("chance 99999999999999999999;size 1;", 7);
        fault("chance 4294967297;size 1;", 7);
        fault("chance 1+;size 1;", 9);
        fault("chance +1;size 1;", 7);
        fault("chance 1*/2;size 1;", 9);
        good("chance 1--2;size 1;");
        fault("chance 1<2<3;size 1;", 10);
        fault("chance 1<2=3;size 1;", 10);
        good("chance (1<2)=3;size 1;");
        fault("chance ();size 1;", 8);
        fault("chance (1;size 1;", 9);
        fault("chance 1);size 1;", 8);
        fault("chance (1", 9);
        fault("chance -", 8);
        fault("chance 2a;size 1;", 8);
        fault("chance a2;size 1;", 8);
        good("chance ((((((((1))))))));size 1;");
        fault("chance (((((((((1)))))))));size 1;", 15);
        good("chance --------1;size 1;");
        fault("chance ---------1;size 1;", 15);
        good("chance -(-(-(-(1))));size 1;");
        fault("chance -(-(-(-(-1))));size 1;", 15);
        fault("chance -(-(-(-((1)))));size 1;", 15);
        fault("chance -------1-------1-(-(-(-(1)))));size 1;", 36);
        good("chance --------1---------1;size 1;");
        good("chance ((((((((1-1))))))));size 1;");
        fault("chance ((((((((1--1))))))));size 1;", 17);
        good("chance ((((((((1))))))))+((((((((1))))))));size 1;");
    }

    private static void value(String e, int due) {
        is(e, harm("chance 0;size " + e + ";"), 1);
        is(e, x.hurt(3512, 1), due);
    }

    /** At a 3, b 5, g 1, h 2. */
    private static void p6Values() {
        begin(6);
        cares(0, 0, 0, 0, 0);
        cares(1, 0, 0, 0, 0, 0, 0);
        goings(0, 0);
        goings(1, 0, 0);
        value("a*1000+b*100+g*10+h", 3512);
        value("10-3-2", 5);
        value("100/7/2", 7);
        value("2+3*4", 14);
        value("(2+3)*4", 20);
        value("-2+3", 1);
        value("--7", 7);
        value("-a*-b", 15);
        value("0-7/2+10", 7);
        value("(0-7)/2+10", 7);
        value("7/0+1", 1);
        value("5/(a-3)", 0);
        value("1<2", 1);
        value("2<2", 0);
        value("2=2", 1);
        value("2=3", 0);
        value("1+1=4-2", 1);
        value("9*(a<b)+(b<a)", 9);
        value("2-3", 0);
        value("9999+1", 9999);
        // 32 bits wrap: 9999 * 9999 * 43 is 4299140043, which is 4172747 more than 2 to the 32nd.
        value("9999*9999*43-4172*1000", 747);
        value("(9999*9999*22-1<0)", 1);
        // The least int by -1 is itself: 2 to the 31st is 8192 * 8192 * 32.
        value("8192*8192*32/-1<0", 1);
        value("-(8192*8192*32)<0", 1);
        value("8192*8192*32-1", 9999);
    }

    private static void p7() {
        begin(7);
        is("no cares", x.hurt(0, 0), BEYOND);
        cares(0, 0, 0);
        cares(1, 0, 0);
        goings(0, 0);
        is("no harm", x.hurt(0, 0), 0);
        x.set(4, 64);
        is("no harm, SHIFT doesn't count", x.hurt(1110, 0), 0);
        is("no harm, size", x.hurt(0, 1), 0);
        x.set(4, 0);
        harm("chance 60+a*8-b*100;size 9990+a*20-b*99999999/b;".replace("99999999", "9999"));
        is("chance", x.hurt(0, 0), 60);
        is("64 at most", x.hurt(1000, 0), 64);
        is("0 at least", x.hurt(100, 0), 0);
        x.set(4, 4);
        is("shifted", x.hurt(0, 0), 64);
        is("shifted by 4", x.hurt(1100, 0), 0);
        x.set(4, -64);
        is("shifted below 0", x.hurt(0, 0), 0);
        is("68 less 64", x.hurt(1000, 0), 4);
        is("size", x.hurt(0, 1), 9990);
        is("9999 at most", x.hurt(1000, 1), 9999);
        is("0 at least", x.hurt(100, 1), 0);
        is("below 0", x.hurt(-1, 0), BEYOND);
        is("MIN", x.hurt(MIN, 0), BEYOND);
        is("CARE 2 of 0", x.hurt(2000, 0), BEYOND);
        is("CARE 2 of 1", x.hurt(200, 0), BEYOND);
        is("GOING 2 of 0", x.hurt(20, 0), BEYOND);
        is("GOING 1 of 1", x.hurt(1, 0), BEYOND);
        is("10000", x.hurt(10000, 0), BEYOND);
        is("MAX", x.hurt(MAX, 0), BEYOND);
        is("what -1", x.hurt(0, -1), BEYOND);
        is("what 2", x.hurt(0, 2), BEYOND);
        // E and SHIFT together don't wrap.
        harm("chance 8192*8192*32-1;size 8192*8192*32;");
        x.set(4, 64);
        is("greatest E and SHIFT", x.hurt(0, 0), 64);
        is("least E", x.hurt(0, 1), 0);
        harm("chance 8192*8192*32;size 8192*8192*32-1;");
        x.set(4, -64);
        is("least E and SHIFT", x.hurt(0, 0), 0);
        is("greatest E", x.hurt(0, 1), 9999);
        x.set(4, 64);
        harm("chance -64;size 1;");
        is("-64 and 64", x.hurt(0, 0), 0);
        harm("chance -63;size 1;");
        is("-63 and 64", x.hurt(0, 0), 1);
        x.set(4, -64);
        harm("chance 127;size 1;");
        is("127 less 64", x.hurt(0, 0), 63);
        p7Growing();
    }

    /** What is added counts at once, and what undo() takes back, too. */
    private static void p7Growing() {
        begin(7);
        harm("chance 1+a+b*2+g*8+h*16;size 1000*a+100*b+10*g+h;");
        cares(0, 0);
        cares(1, 0);
        is("at 0", x.hurt(0, 0), 1);
        x.image();
        int[] tops = {0, 0, 0, 0};
        int[] order = {0, 1, 2, 3, 1, 0, 3, 2, 2, 3, 0, 0, 1, 1, 1, 0};
        for (int which : order) {
            is("added", which < 2 ? x.care(which, 0) : x.going(which - 2, 0), tops[which] + 1);
            tops[which]++;
            int doings = tops[0] * 1000 + tops[1] * 100 + tops[2] * 10 + tops[3];
            is("at " + doings, x.hurt(doings, 1), doings);
            is("chance there", x.hurt(doings, 0), Math.min(64, 1 + tops[0] + tops[1] * 2 + tops[2] * 8 + tops[3] * 16));
        }
        x.undo();
        is("no more", x.hurt(1, 1), BEYOND);
        is("at 0 again", x.hurt(0, 0), 1);
    }

    private static void p8() {
        begin(8);
        is("kind -1", x.rule(-1, 0, 0), BEYOND);
        is("kind 5", x.rule(5, 0, 0), BEYOND);
        is("kind 6", x.rule(6, 0, 0), BEYOND);
        is("bar 9", x.rule(2, 9, 0), BEYOND);
        is("bar -1", x.rule(2, -1, 0), BEYOND);
        is("turned bar 9", x.rule(4, 9, 0), BEYOND);
        is("turned bar -1", x.rule(4, -1, 0), BEYOND);
        is("bars 89", x.rule(3, 89, 0), BEYOND);
        is("bars 9", x.rule(3, 9, 0), BEYOND);
        is("bars 79", x.rule(3, 79, 0), BEYOND);
        is("bars 90", x.rule(3, 90, 0), BEYOND);
        is("bars -1", x.rule(3, -1, 0), BEYOND);
        is("share 9", x.rule(3, 0, 9), BEYOND);
        is("share -1", x.rule(3, 0, -1), BEYOND);
        is("none came", x.look(4), 0);
        is("RULE, others not looked at", x.rule(0, MIN, MAX), 0);
        is("STRICT", x.rule(1, 99, -99), 1);
        is("CARE", x.rule(2, 8, MAX), 2);
        is("PARTS", x.rule(3, 88, 8), 3);
        is("PARTS of 80", x.rule(3, 80, 0), 4);
        is("TURNED", x.rule(4, 8, MIN), 5);
        is("CARE of bar 0", x.rule(2, 0, 0), 6);
        is("PARTS of bars 0", x.rule(3, 0, 0), 7);
        is("TURNED of bar 0", x.rule(4, 0, 0), 8);
        for (int k = 9; k < 20; k++) {
            is("rule " + k, x.rule(0, 0, 0), k);
        }
        is("full", x.rule(0, 0, 0), FULL);
        is("BEYOND before FULL", x.rule(2, 9, 0), BEYOND);
        is("twenty", x.look(4), 20);
    }

    private static void p9() {
        begin(9);
        is("no rule", x.cover(0, 0), BEYOND);
        x.rule(1, 0, 0);
        is("part -1", x.cover(0, -1), BEYOND);
        is("part 9", x.cover(0, 9), BEYOND);
        is("rule -1", x.cover(-1, 1), BEYOND);
        is("itself", x.cover(1, 1), BEYOND);
        is("part 0", x.cover(0, 0), 1);
        is("part 8", x.cover(1, 8), 2);
        for (int k = 3; k < 20; k++) {
            is("cover " + k, x.cover(k - 1, 1), k);
        }
        is("full", x.cover(0, 1), FULL);
        is("BEYOND before FULL", x.cover(20, 1), BEYOND);
    }

    private static void p10() {
        begin(10);
        is("empty", x.told(), -1);
        is("told", told("pays 8*a+b"), 0);
        is("tape is empty then", x.look(6), 0);
        is("with ;", told("pays 1;"), -7);
        is("tape stays", x.look(6), 7);
        is("a harm", told("chance 1;size 1;"), -1);
        is("too early", told("pays 1+ "), -9);
        is("too great", told("pays 12345"), -6);
        is("a word", told("pays size"), -6);
        is("all names", told(" pays a+b+g+h  "), 1);
        is("no finding", x.status(-1), 0);
        p10Full();
        for (int k = 2; k < 20; k++) {
            x.rule(0, 0, 0);
        }
        is("FULL before a FAULT", told("pays"), FULL);
        is("full", told("pays 1"), FULL);
        is("tape stays when full", x.look(6), 6);
    }

    /** Texts that fill THE TAPE to its end, and ones that are shorter than what was there before. */
    private static void p10Full() {
        CareRules before = x;
        x = new CareRules();
        is("digits to the end", told("pays " + "0".repeat(113) + "12"), 0);
        is("their value", x.due(0, 0, 0, 0), 12);
        is("blanks to the end", told("pays 7" + " ".repeat(114)), 1);
        is("a name at the end", told("pays 0" + "+1".repeat(56) + "+a"), 2);
        is("its value", x.due(2, 7, 0, 0), 63);
        is("too early at the end", told("pays " + "1+".repeat(57) + "+"), -120);
        is("blanks, then too early", told("pays" + " ".repeat(116)), -121);
        is("what was behind doesn't count", told("pays 5"), 3);
        is("nor digits", x.due(3, 0, 0, 0), 5);
        x = before;
        x.wipe();
    }

    /** One rule of each kind, by its kind. */
    private static void kinds(int number) {
        begin(number);
        x.rule(0, 0, 0);
        x.rule(1, 0, 0);
        x.rule(2, 5, 0);
        x.rule(3, 47, 3);
        x.rule(4, 6, 0);
        x.cover(3, 2);
        told("pays 1");
    }

    private static void p11() {
        kinds(11);
        long[][] due = {
            {0, KIND, KIND, KIND, KIND, KIND},
            {1, KIND, KIND, KIND, KIND, KIND},
            {2, 5, KIND, KIND, KIND, KIND},
            {3, 4, 7, 3, KIND, KIND},
            {4, 6, KIND, KIND, KIND, KIND},
            {5, KIND, KIND, KIND, 3, 2},
            {6, KIND, KIND, KIND, KIND, KIND},
        };
        for (int rule = 0; rule < 7; rule++) {
            for (int what = 0; what < 6; what++) {
                is("of(" + rule + ", " + what + ")", x.of(rule, what), due[rule][what]);
            }
        }
        is("rule 7", x.of(7, 0), BEYOND);
        is("rule -1", x.of(-1, 0), BEYOND);
        is("what -1", x.of(0, -1), BEYOND);
        is("what 6", x.of(0, 6), BEYOND);
    }

    private static void p12() {
        kinds(12);
        for (int rule = 0; rule < 7; rule++) {
            for (int kind = 0; kind < 7; kind++) {
                boolean is = kind == 0 || kind == rule || (rule == 3 && kind == 2);
                is("as(" + rule + ", " + kind + ")", x.as(rule, kind), is ? rule : KIND);
            }
        }
        is("rule 7", x.as(7, 0), BEYOND);
        is("rule -1", x.as(-1, 0), BEYOND);
        is("kind 7", x.as(0, 7), BEYOND);
        is("kind -1", x.as(0, -1), BEYOND);
    }

    private static void p13() {
        begin(13);
        x.rule(0, 0, 0);
        x.rule(1, 0, 0);
        x.rule(2, 3, 0);
        x.rule(3, 25, 3);
        x.rule(4, 2, 0);
        told("pays 10*a-b-g*99-h*99");
        x.cover(1, 3);
        x.cover(6, 5);
        x.cover(5, 8);
        is("RULE", x.due(0, 0, 0, 0), 0);
        is("STRICT", x.due(1, 7, 7, 0), 64);
        is("CARE below", x.due(2, 2, 7, 0), 64);
        is("CARE at the bar", x.due(2, 3, 0, 0), 0);
        is("PARTS both below", x.due(3, 1, 4, 0), 24);
        is("PARTS 1 not below", x.due(3, 1, 5, 0), 64);
        is("PARTS 0 not below", x.due(3, 2, 4, 0), 0);
        is("TURNED below", x.due(4, 0, 1, 0), 0);
        is("TURNED at the bar", x.due(4, 7, 2, 0), 64);
        is("TOLD", x.due(5, 3, 4, 0), 26);
        is("TOLD 0 at least", x.due(5, 0, 4, 0), 0);
        is("TOLD 64 at most", x.due(5, 7, 0, 0), 64);
        is("COVER", x.due(6, 0, 0, 0), 40);
        is("COVER third", x.due(6, 0, 0, 2), 24);
        is("COVER of COVER", x.due(7, 0, 0, 0), 15);
        is("COVER of COVER third", x.due(7, 0, 0, 2), 49);
        is("COVER cut", x.due(8, 3, 4, 0), 0);
        is("COVER whole", x.due(8, 3, 4, 2), 26);
        x.cover(5, 3);
        is("cut 26 * 3 / 8", x.due(9, 3, 4, 2), 9);
        is("what is left", x.due(9, 3, 4, 0), 17);
        is("third of others", x.due(1, 0, 0, 2), 0);
        is("rule", x.due(10, 0, 0, 0), BEYOND);
        is("rule -1", x.due(-1, 0, 0, 0), BEYOND);
        is("seen -1", x.due(0, -1, 0, 0), BEYOND);
        is("seen 8", x.due(0, 8, 0, 0), BEYOND);
        is("other -1", x.due(0, 0, -1, 0), BEYOND);
        is("other 8", x.due(0, 0, 8, 0), BEYOND);
        is("whose 1", x.due(0, 0, 0, 1), BEYOND);
        is("whose 3", x.due(0, 0, 0, 3), BEYOND);
        is("whose -1", x.due(0, 0, 0, -1), BEYOND);
    }

    private static void p14() {
        begin(14);
        int[] least = {0, 0, 0, 0, -64};
        int[] most = {8, 9999, 9999, 9999, 64};
        int[] first = {0, 9999, 0, 0, 0};
        for (int what = 0; what < 5; what++) {
            is("too little", x.set(what, least[what] - 1), BEYOND);
            is("too much", x.set(what, most[what] + 1), BEYOND);
            is("at first", x.set(what, most[what]), first[what]);
            is("then the most", x.set(what, least[what]), most[what]);
            is("then the least", x.set(what, 3), least[what]);
            is("then 3", x.set(what, 3), 3);
        }
        is("what -1", x.set(-1, 0), BEYOND);
        is("what 5", x.set(5, 0), BEYOND);
        is("what MIN", x.set(MIN, 0), BEYOND);
    }

    private static void p15() {
        street(15);
        x.rule(2, 2, 0);
        x.rule(3, 21, 3);
        x.cover(1, 4);
        // CHANCE 18/64 at 1011, HURT 20, 0 below the bar: 0 pays all.
        is("0", x.cost(0, 1011, 0), 2 * UNIT - 30 * UNIT + 18 * 512 * 20);
        is("1", x.cost(0, 1011, 1), -12 * UNIT);
        is("third", x.cost(0, 1011, 2), 0);
        is("total", x.cost(0, 1011, 3), -40 * UNIT + 18 * 512 * 20);
        // Both below: 24/64 by PARTS, half of it by the COVER.
        is("parts 0", x.cost(1, 11, 0), -30 * UNIT + 32 * 8 * 24 * 20);
        is("parts 1", x.cost(1, 11, 1), -12 * UNIT + 32 * 8 * 40 * 20);
        is("cover 0", x.cost(2, 11, 0), -30 * UNIT + 32 * 8 * 12 * 20);
        is("cover third", x.cost(2, 11, 2), 32 * 8 * 12 * 20);
        is("cover 1", x.cost(2, 11, 1), -12 * UNIT + 32 * 8 * 40 * 20);
        is("cover total", x.cost(2, 11, 3), -42 * UNIT + 32 * 512 * 20);
        is("no going, no harm", x.cost(0, 1010, 0), -28 * UNIT);
        is("nor price", x.cost(0, 2100, 3), 0);
        is("nor anything", x.cost(0, 0, 0), 0);
        goings(0, 50);
        goings(1, 0);
        is("goings times prices, and times each other", x.cost(0, 2122, 3), (10 - 50 + 6) * UNIT);
        is("at 1122", x.cost(0, 1122, 0), (4 - 50) * UNIT + 14 * 4 * 512 * 20);
        is("rule", x.cost(3, 0, 0), BEYOND);
        is("rule -1", x.cost(-1, 0, 0), BEYOND);
        is("doings", x.cost(0, 3000, 0), BEYOND);
        is("doings -1", x.cost(0, -1, 0), BEYOND);
        is("who -1", x.cost(0, 0, -1), BEYOND);
        is("who 4", x.cost(0, 0, 4), BEYOND);
    }

    /** CHANCE 1, HURT 100, both GOINGS 1 and free, CARES of 0: 0, 1, 2. */
    private static void p15Law() {
        begin(15);
        cares(0, 0, 0, 0);
        cares(1, 0);
        goings(0, 0);
        goings(1, 0);
        harm("chance 64;size 100;");
        x.rule(2, 2, 0);
        x.rule(1, 0, 0);
        x.cover(1, 2);
        told("pays 1");
        x.set(0, 3);
        is("seen below in 3 eighths", x.cost(0, 2011, 0), 3 * 100 * UNIT / 8);
        is("else as it is", x.cost(0, 2011, 1), 5 * 100 * UNIT / 8);
        is("below anyway", x.cost(0, 1011, 0), 100 * UNIT);
        is("0 is not seen below 0", x.cost(0, 11, 0), 100 * UNIT);
        x.set(0, 8);
        is("always wrong", x.cost(0, 2011, 0), 100 * UNIT);
        told("pays 8+8*a");
        is("one less than 2", x.cost(4, 2011, 0), 25 * UNIT);
        is("one less than 1", x.cost(4, 1011, 0), 25 * UNIT / 2);
        is("0 stays 0", x.cost(4, 11, 0), 25 * UNIT / 2);
        x.set(0, 1);
        is("one eighth", x.cost(4, 2011, 0), 7 * 100 * UNIT * 3 / 64 + 100 * UNIT * 2 / 64);
        x.set(0, 7);
        is("seven eighths", x.cost(4, 2011, 0), 100 * UNIT * 3 / 64 + 7 * 100 * UNIT * 2 / 64);
        x.set(0, 0);
        x.set(1, 70);
        is("no more than the purse", x.cost(1, 11, 0), 70 * UNIT);
        is("1 bears what is left", x.cost(1, 11, 1), 30 * UNIT);
        x.set(2, 9);
        is("the purse doesn't hold what law costs", x.cost(1, 11, 0), 79 * UNIT);
        x.set(3, 4);
        is("1 bears what law costs 1", x.cost(1, 11, 1), 34 * UNIT);
        is("total", x.cost(1, 11, 3), 113 * UNIT);
        is("the third pays beyond the purse", x.cost(2, 11, 2), 25 * UNIT);
        is("0 of the cover", x.cost(2, 11, 0), 79 * UNIT);
        is("1 of the cover", x.cost(2, 11, 1), 9 * UNIT);
        x.set(3, 100);
        is("no law for 100 at 100", x.cost(1, 11, 0), 0);
        is("1 bears all", x.cost(1, 11, 1), 100 * UNIT);
        is("nor for cover", x.cost(2, 11, 2), 0);
        x.set(3, 99);
        is("law for 100 at 99", x.cost(1, 11, 0), 79 * UNIT);
        is("cover together", x.cost(2, 11, 1), (5 + 99) * UNIT);
        // A 64th of 100 is 1 and 36/64: above 1, not above 2.
        x.set(3, 1);
        is("exactly", x.cost(3, 11, 0), 9 * UNIT + 100 * UNIT / 64);
        x.set(3, 2);
        is("not above", x.cost(3, 11, 0), 0);
        x.set(3, 0);
        harm("chance 64;size 0;");
        is("0 is not above 0", x.cost(1, 11, 0), 0);
        // The greatest COSTS are beyond an int.
        harm("chance 64;size 9999;");
        goings(0, 0, 0);
        goings(1, 0, 0);
        x.set(1, 9999);
        x.set(2, 9999);
        is("great", x.cost(1, 33, 0), 9L * 2 * 9999 * UNIT);
    }

    private static void p16() {
        street(16);
        is("at 11", x.plain(11), -42 * UNIT + 32 * 512 * 20);
        is("at 2111", x.plain(2111), (5 + 3 - 42) * UNIT);
        is("at 0", x.plain(0), 0);
        is("at 2100", x.plain(2100), 0);
        is("at 1", x.plain(1), -12 * UNIT);
        x.set(2, 50);
        x.set(0, 8);
        is("without law", x.plain(11), -42 * UNIT + 32 * 512 * 20);
        x.set(4, 2);
        is("with SHIFT", x.plain(11), -42 * UNIT + 34 * 512 * 20);
        is("beyond", x.plain(3000), BEYOND);
        is("below 0", x.plain(-1), BEYOND);
    }

    private static void p17() {
        begin(17);
        is("no cares", x.least(), STATE);
        x.care(1, 0);
        is("only 1 has", x.least(), STATE);
        x.care(0, 0);
        is("nothing to do", x.least(), 0);
        begin(17);
        x.care(0, 0);
        is("only 0 has", x.least(), STATE);
        is("best, too", x.best(0), STATE);
        street(17);
        is("at 2011", x.least(), (5 - 42) * UNIT + 4 * 512 * 20);
        x.set(4, -4);
        is("with SHIFT", x.least(), (5 - 42) * UNIT);
    }

    private static void p18() {
        begin(18);
        is("STATE before BEYOND", x.best(-2), STATE);
        cares(0, 7, 7);
        cares(1, 0, 1);
        goings(1, 5);
        is("how many", x.best(-1), 2);
        is("first", x.best(0), 1);
        is("second", x.best(1), 1001);
        is("third", x.best(2), NONE);
        is("MAX", x.best(MAX), NONE);
        is("-2", x.best(-2), BEYOND);
        is("MIN", x.best(MIN), BEYOND);
        begin(18);
        cares(0, 3);
        cares(1, 0);
        goings(0, 1);
        is("0 may be best", x.best(0), 0);
        is("alone", x.best(-1), 1);
    }

    private static void p19() {
        street(19);
        x.rule(2, 2, 0);
        x.rule(0, 0, 0);
        is("0 takes care", x.answer(0, 0, 11), 21);
        is("1 doesn't", x.answer(0, 1, 11), 1);
        is("1 goes whatever it did", x.answer(0, 1, 2110), 1);
        is("0 by RULE", x.answer(1, 0, 2011), 1);
        begin(19);
        cares(0, 4, 4);
        cares(1, 1, 0);
        goings(0, 4);
        goings(1, 0);
        x.rule(0, 0, 0);
        is("of like ones the least CARE, then GOING", x.answer(0, 0, 1011), 0);
        is("likewise of 1", x.answer(0, 1, 111), 0);
        goings(1, 3, 3);
        is("GOING 2 with CARE 1", x.answer(0, 1, 0), 12);
        is("rule", x.answer(1, 0, 0), BEYOND);
        is("who 2", x.answer(0, 2, 0), BEYOND);
        is("who -1", x.answer(0, -1, 0), BEYOND);
        is("doings", x.answer(0, 0, 2000), BEYOND);
    }

    /** 0 wants what 1 does, 1 wants what 0 doesn't: no RESTS by STRICT with these. */
    private static void chase(int number) {
        begin(number);
        cares(0, 0, 1);
        cares(1, 0, 1);
        goings(0, 500);
        goings(1, 500);
        told("pays 64*(a=b)");
        harm("chance 64;size 50;");
    }

    private static void p20() {
        begin(20);
        is("BEYOND before STATE", x.rest(0, 0), BEYOND);
        x.rule(1, 0, 0);
        is("STATE", x.rest(0, 0), STATE);
        is("STATE before BEYOND", x.rest(0, -2), STATE);
        cares(0, 3, 3);
        cares(1, 0);
        is("how many", x.rest(0, -1), 2);
        is("first", x.rest(0, 0), 0);
        is("second", x.rest(0, 1), 1000);
        is("third", x.rest(0, 2), NONE);
        is("MAX", x.rest(0, MAX), NONE);
        is("-2", x.rest(0, -2), BEYOND);
        is("rule -1", x.rest(-1, 0), BEYOND);
        street(20);
        x.rule(1, 0, 0);
        is("strict", x.rest(0, 0), 2011);
        is("alone", x.rest(0, 1), NONE);
        chase(20);
        is("none", x.rest(0, -1), 0);
        is("none such", x.rest(0, 0), NONE);
    }

    private static void p21() {
        street(21);
        x.rule(2, 2, 0);
        is("0 could", x.judge(0, 11), 1);
        is("1 could", x.judge(0, 2111), 2);
        is("both could", x.judge(0, 100), 3);
        is("a REST", x.judge(0, 2011), 0);
        is("at 0", x.judge(0, 0), 3);
        is("rule", x.judge(1, 11), BEYOND);
        is("doings", x.judge(0, 3011), BEYOND);
        is("doings -1", x.judge(0, -1), BEYOND);
    }

    private static void p22() {
        begin(22);
        is("BEYOND before STATE", x.lost(0, 0), BEYOND);
        x.rule(0, 0, 0);
        is("STATE before BEYOND", x.lost(0, -1), STATE);
        street(22);
        x.rule(0, 0, 0);
        x.rule(1, 0, 0);
        is("by RULE", x.lost(0, 0), (32 - 4) * 512 * 20 - 5 * UNIT);
        is("by STRICT", x.lost(1, 0), 0);
        is("-1", x.lost(0, -1), BEYOND);
        is("MIN", x.lost(0, MIN), BEYOND);
        is("none such", x.lost(0, 1), NONE);
        x.set(2, 7);
        is("law is lost, too", x.lost(1, 0), 4 * 512 * 7);
    }

    private static void p23() {
        begin(23);
        is("BEYOND before STATE", x.how(0, 0), BEYOND);
        x.rule(0, 0, 0);
        is("STATE before BEYOND", x.how(0, -1), STATE);
        street(23);
        x.rule(0, 0, 0);
        x.rule(1, 0, 0);
        is("CARE of 0", x.how(0, 0), 1);
        is("like it", x.how(1, 0), 0);
        is("-1", x.how(0, -1), BEYOND);
        is("none such", x.how(0, 1), NONE);
        // By STRICT 1 goes twice and 0 stays; the best is that 0 goes, 1 with care.
        begin(23);
        cares(0, 5, 0);
        cares(1, 0, 4);
        goings(0, 100);
        goings(1, 9, 60);
        harm("chance (64-60*b)*a+(1-a)*64;size 90;");
        x.rule(1, 0, 0);
        x.rule(0, 0, 0);
        is("best", x.best(0), 1112);
        is("rest by STRICT", x.rest(0, 0), 2);
        is("how by STRICT", x.how(0, 0), 1 + 2 + 4);
        is("its second", x.rest(0, 1), 1002);
        is("how of it", x.how(0, 1), 2 + 4);
        x.set(4, 64);
        is("best at 64", x.best(0), 1010);
        is("how then", x.how(0, 0), 1 + 4 + 8);
    }

    private static void p24() {
        begin(24);
        is("BEYOND before STATE", x.worst(0), BEYOND);
        x.rule(0, 0, 0);
        is("STATE", x.worst(0), STATE);
        cares(0, 0, 0);
        cares(1, 0);
        goings(0, 9);
        goings(1, 9);
        harm("chance 10-a*5;size 8;");
        is("two rests", x.rest(0, -1), 2);
        is("the worse", x.worst(0), 5 * 512 * 8);
        is("the first", x.lost(0, 0), 5 * 512 * 8);
        is("the second", x.lost(0, 1), 0);
        street(24);
        x.rule(0, 0, 0);
        x.rule(1, 0, 0);
        x.cover(1, 8);
        is("what the third bears is lost, too", x.worst(2), 28 * 512 * 20 - 5 * UNIT);
        is("by STRICT nothing", x.worst(1), 0);
        is("by RULE", x.worst(0), 28 * 512 * 20 - 5 * UNIT);
        chase(24);
        is("none", x.worst(0), NONE);
        is("rule -1", x.worst(-1), BEYOND);
    }

    private static void p25() {
        begin(25);
        is("BEYOND before STATE", x.find(3), BEYOND);
        is("STATE", x.find(2), STATE);
        street(25);
        is("bar", x.find(2), 2);
        is("turned", x.find(4), 0);
        is("kind 0", x.find(0), BEYOND);
        is("kind 5", x.find(5), BEYOND);
        is("no rule came", x.look(4), 0);
        begin(25);
        cares(0, 0);
        cares(1, 0);
        is("of like ones the least", x.find(2), 0);
        is("likewise", x.find(4), 0);
        // Only CARE of 1 helps: 1 should bear it, so TURNED needs a bar that makes 1 take care.
        begin(25);
        cares(0, 0);
        cares(1, 0, 1, 2);
        goings(0, 90);
        goings(1, 90);
        harm("chance 40-b*20;size 20;");
        is("turned bar 2", x.find(4), 2);
        // CARE is free and helps nothing: below bar 8, which is as STRICT, 0 goes out at a loss to all.
        begin(25);
        cares(0, 0, 0, 0, 0, 0, 0, 0, 0);
        cares(1, 0);
        goings(0, 10);
        goings(1, 60);
        harm("chance 64;size 50;");
        is("bar 8", x.find(2), 8);
    }

    private static void p26() {
        begin(26);
        is("BEYOND before STATE", x.keeps(0, 0), BEYOND);
        x.rule(1, 0, 0);
        is("law before STATE", x.keeps(0, 3), BEYOND);
        is("STATE", x.keeps(0, 0), STATE);
        street(26);
        x.rule(2, 2, 0);
        x.rule(1, 0, 0);
        told("pays 8*a");
        told("pays 8*(6<a)");
        x.cover(1, 5);
        is("CARE keeps 0", x.keeps(0, 0), 1);
        is("CARE keeps 1", x.keeps(0, 1), 1);
        is("CARE keeps 2", x.keeps(0, 2), 1);
        is("STRICT keeps 0", x.keeps(1, 0), 1);
        is("STRICT breaks 1", x.keeps(1, 1), 0);
        is("TOLD breaks 0", x.keeps(2, 0), 0);
        is("beyond the CARES that there are", x.keeps(3, 0), 1);
        is("nor law 1", x.keeps(3, 1), 1);
        told("pays a=3");
        told("pays b=2");
        is("CARE 3 of 0 isn't there", x.keeps(5, 0), 1);
        is("for law 1 neither", x.keeps(5, 1), 1);
        is("nor is CARE 2 of 1", x.keeps(6, 1), 1);
        is("COVER keeps 2", x.keeps(4, 2), 1);
        x.set(0, 8);
        is("whatever WRONG is", x.keeps(0, 1), 1);
        is("law -1", x.keeps(0, -1), BEYOND);
        is("law 3", x.keeps(0, 3), BEYOND);
        is("rule", x.keeps(7, 0), BEYOND);
    }

    private static void p27() {
        begin(27);
        is("BEYOND before STATE", x.breach(0, 0), BEYOND);
        x.rule(1, 0, 0);
        is("law before STATE", x.breach(0, 3), BEYOND);
        is("STATE", x.breach(0, 0), STATE);
        street(27);
        x.rule(1, 0, 0);
        told("pays 9*(a=2)*b");
        told("pays (a=2)*(b=1)");
        is("law 1 from the best CARE on", x.breach(0, 1), 20);
        is("law 0: the lesser CARE", x.breach(1, 0), 11);
        is("law 1 at b 1", x.breach(2, 1), 21);
        told("pays a");
        told("pays a*b");
        is("law 0 at 0", x.breach(3, 0), 0);
        is("law 0 at 1", x.breach(4, 0), 1);
        is("none of 2", x.breach(0, 2), NONE);
        is("none of 0", x.breach(0, 0), NONE);
        is("law 3", x.breach(0, 3), BEYOND);
        is("law -1", x.breach(0, -1), BEYOND);
        is("rule -1", x.breach(-1, 0), BEYOND);
    }

    private static void p28() {
        begin(28);
        is("BEYOND before STATE", x.agree(0), BEYOND);
        x.rule(1, 0, 0);
        is("STATE", x.agree(0), STATE);
        cares(0, 0, 0);
        cares(1, 0, 0);
        is("of like ones the first", x.agree(0), 0);
        street(28);
        x.rule(0, 0, 0);
        x.rule(1, 0, 0);
        x.cover(1, 8);
        is("by RULE the best", x.agree(0), 2011);
        is("by STRICT, too", x.agree(1), 2011);
        is("at the cost of the third", x.agree(2), 11);
        is("rule", x.agree(3), BEYOND);
    }

    private static void p29() {
        begin(29);
        is("BEYOND before STATE", x.talk(0), BEYOND);
        x.rule(1, 0, 0);
        is("STATE", x.talk(0), STATE);
        street(29);
        x.rule(0, 0, 0);
        x.rule(1, 0, 0);
        x.cover(1, 8);
        is("nothing is lost", x.talk(0), 0);
        is("what the third bears", x.talk(2), (32 - 4) * 512 * 20 - 5 * UNIT);
        is("rule -1", x.talk(-1), BEYOND);
        x.set(2, 7);
        is("law stays lost", x.talk(1), 4 * 512 * 7);
    }

    private static void p30() {
        begin(30);
        cares(0, 0, 0, 0);
        cares(1, 0);
        harm("chance 0;size 100;");
        x.rule(2, 2, 0);
        x.rule(1, 0, 0);
        x.cover(1, 4);
        told("pays 1");
        is("exactly", x.settle(0, 0, 100), 1);
        is("99", x.settle(0, 0, 99), 2);
        is("101", x.settle(0, 0, 101), 2);
        is("no due", x.settle(0, 2000, 0), 0);
        x.set(0, 8);
        is("seen as it is", x.settle(0, 2000, 0), 0);
        x.set(2, 5);
        x.set(3, 10);
        is("90", x.settle(1, 0, 90), 1);
        is("89", x.settle(1, 0, 89), 2);
        is("105", x.settle(1, 0, 105), 1);
        is("106", x.settle(1, 0, 106), 2);
        x.set(1, 20);
        is("purse: 10 is PAID less 10", x.settle(1, 0, 10), 1);
        is("9 is less", x.settle(1, 0, 9), 2);
        is("25", x.settle(1, 0, 25), 1);
        is("26", x.settle(1, 0, 26), 2);
        is("the third is beyond the purse: 70", x.settle(2, 0, 60), 1);
        is("59", x.settle(2, 0, 59), 2);
        is("75", x.settle(2, 0, 75), 1);
        is("76", x.settle(2, 0, 76), 2);
        x.set(3, 100);
        is("no law", x.settle(1, 0, 50), 0);
        x.set(3, 99);
        is("law, 0 suits", x.settle(1, 0, 0), 1);
        // PAID is 1 and 36/64 here.
        x.set(3, 1);
        x.set(2, 0);
        is("1 is between", x.settle(3, 0, 1), 1);
        is("2 is above", x.settle(3, 0, 2), 2);
        is("0 is below", x.settle(3, 0, 0), 2);
        is("x 99999", x.settle(1, 0, 99999), 2);
        is("x 100000", x.settle(1, 0, 100000), BEYOND);
        is("x -1", x.settle(1, 0, -1), BEYOND);
        is("rule", x.settle(4, 0, 0), BEYOND);
        is("doings", x.settle(0, 3000, 0), BEYOND);
        is("beyond though no law", x.settle(0, 2000, -1), BEYOND);
    }

    private static void p31() {
        begin(31);
        is("BEYOND before STATE", x.edge(0, 0), BEYOND);
        x.rule(0, 0, 0);
        x.rule(1, 0, 0);
        is("second", x.edge(0, 2), BEYOND);
        is("first", x.edge(-1, 0), BEYOND);
        is("STATE", x.edge(0, 1), STATE);
        cares(0, 0, 5);
        cares(1, 0);
        goings(0, 99);
        goings(1, 99);
        is("no harm", x.edge(0, 1), NONE);
        // Care saves 20/64 of 32 = 10 and costs 5 as long as CHANCE without it is 10/64 or more.
        harm("chance 20-a*20;size 32;");
        is("itself", x.edge(0, 0), NONE);
        // At SHIFT 0 STRICT is better; at -10 CHANCE is 10 and care costs as much as it saves.
        is("down", x.edge(0, 1), -10);
        is("the other way", x.edge(1, 0), -10);
        is("SHIFT stays", x.set(4, 0), 0);
        // At 54 CHANCE is 64 and 54: 10/64 are saved, no more than care costs.
        x.set(4, 30);
        is("up", x.edge(0, 1), 54);
        x.set(4, 22);
        is("as near ones: the lesser", x.edge(0, 1), -10);
        x.set(4, -11);
        is("back", x.edge(0, 1), -9);
        x.set(4, 64);
        is("back from above", x.edge(0, 1), 53);
        is("no more than the finding counts", x.status(-1), 6);
        chase(31);
        x.rule(1, 0, 0);
        // Till CHANCE is 1/64 the TOLD one has no RESTS; then a harm costs less than care, and both are alike.
        is("without RESTS the other is better", x.edge(0, 1), -63);
        is("the other way, too", x.edge(1, 0), -63);
        told("pays 64*(b=a)");
        is("both without are alike", x.edge(0, 2), NONE);
    }

    /** RULE and STRICT; CARE 0 is free, CARE 1 has a PRICE. */
    private static void pair(int price, String text) {
        begin(31);
        x.rule(0, 0, 0);
        x.rule(1, 0, 0);
        cares(0, 0, price);
        cares(1, 0);
        goings(0, 999);
        goings(1, 999);
        is(text, harm(text), 1);
    }

    private static long edgeFrom(int shift) {
        x.set(4, shift);
        return x.edge(0, 1);
    }

    private static void p31Ends() {
        // CARE 1 saves 1/64 at 64 alone.
        pair(0, "chance -63-a*10;size 50;");
        is("farthest up", edgeFrom(-64), 64);
        is("next to it", edgeFrom(64), 63);
        is("one up", edgeFrom(63), 64);
        // CARE 1 harms at -64 alone.
        pair(0, "chance 127+a*10;size 50;");
        is("farthest down", edgeFrom(64), -64);
        is("next to it", edgeFrom(-64), -63);
        is("one down", edgeFrom(-63), -64);
        // At -65, were there one, care would save 70, less than it costs.
        pair(71, "chance 100-a*36;size 128;");
        is("no SHIFT below -64", edgeFrom(-64), -35);
        // At 65, were there one, care would save 126.
        pair(127, "chance 10-a*74;size 128;");
        is("no SHIFT above 64", edgeFrom(64), 53);
    }

    private static void p32() {
        begin(32);
        is("k -1", x.many(-1, 0), BEYOND);
        is("k 8", x.many(8, 0), BEYOND);
        is("v -1", x.many(0, -1), BEYOND);
        is("v 100", x.many(0, 100), BEYOND);
        is("at first", x.many(7, 99), 0);
        is("then", x.many(7, 1), 99);
        is("then", x.many(7, 0), 1);
        is("another", x.many(0, 5), 0);
    }

    private static void p33() {
        begin(33);
        x.many(0, 5);
        x.many(1, 3);
        x.many(7, 4);
        is("set -1", x.whose(-1, 1), BEYOND);
        is("set 256", x.whose(256, 1), BEYOND);
        is("k 0", x.whose(3, 0), BEYOND);
        is("k 10000", x.whose(3, 10000), BEYOND);
        is("none", x.whose(0, 1), STATE);
        is("too little", x.whose(131, 13), STATE);
        is("9999", x.whose(131, 9999), STATE);
        is("all", x.whose(131, 12), 131);
        is("those of 4 or more", x.whose(131, 9), 129);
        is("those of 5 or more", x.whose(131, 8), 1);
        is("none needed", x.whose(131, 7), 0);
        is("without weight not needed", x.whose(135, 12), 131);
        is("alone", x.whose(2, 3), 2);
        is("only the set counts", x.whose(3, 8), 3);
        is("all of MANY", x.whose(255, 12), 131);
    }

    private static void p34() {
        begin(34);
        x.many(1, 5);
        x.many(2, 3);
        x.many(7, 3);
        is("set -1", x.part(-1, 1, 0), BEYOND);
        is("set 256", x.part(256, 1, 0), BEYOND);
        is("n -1", x.part(134, -1, 1), BEYOND);
        is("n 10000", x.part(134, 10000, 1), BEYOND);
        is("one not in it", x.part(134, 1, 3), BEYOND);
        is("one -1", x.part(134, 1, -1), BEYOND);
        is("one 8", x.part(255, 1, 8), BEYOND);
        is("one 33", x.part(255, 1, 33), BEYOND);
        is("one MIN", x.part(255, 1, MIN), BEYOND);
        is("BEYOND before STATE", x.part(8, 1, 2), BEYOND);
        is("weights 0", x.part(8, 1, 3), STATE);
        is("45 and what is left", x.part(135, 100, 1), 46);
        is("27", x.part(135, 100, 2), 27);
        is("27", x.part(135, 100, 7), 27);
        is("least of the set without weight", x.part(135, 100, 0), 0);
        is("all that is left", x.part(134, 1, 1), 1);
        is("nothing", x.part(134, 1, 2), 0);
        is("0", x.part(134, 0, 1), 0);
        is("alone", x.part(128, 9999, 7), 9999);
        x.many(0, 1);
        x.many(1, 1);
        x.many(2, 1);
        is("0 has what is left", x.part(7, 100, 0), 34);
        is("1 has not", x.part(7, 100, 1), 33);
        is("all of MANY", x.part(255, 60, 7), 30);
    }

    private static void p35() {
        begin(35);
        is("sheet -1", x.sheet(-1, 8, 1), BEYOND);
        is("sheet 4", x.sheet(4, 8, 1), BEYOND);
        is("bits 32", x.sheet(0, 32, 1), BEYOND);
        is("bits -8", x.sheet(0, -8, 1), BEYOND);
        is("bits before SIZE", x.sheet(0, 7, -1), BEYOND);
        is("SIZE", x.sheet(0, 8, -1), SIZE);
        is("SIZE MIN", x.sheet(0, 64, MIN), SIZE);
        is("SIZE with 0", x.sheet(0, 0, -1), SIZE);
        is("41", x.sheet(0, 16, 41), BEYOND);
        is("41 with 0", x.sheet(0, 0, 41), BEYOND);
        is("MISSING as yet", x.write(0, 0, 1), MISSING);
        is("40", x.sheet(0, 16, 40), 40);
        is("0", x.sheet(3, 64, 0), 0);
        is("not MISSING", x.write(3, 0, 0), BEYOND);
        x.write(0, 39, 7);
        is("refused", x.sheet(0, 16, 41), BEYOND);
        is("it stays", x.write(0, 39, 8), 7);
        is("anew", x.sheet(0, 16, 40), 40);
        is("all 0", x.write(0, 39, 8), 0);
        is("fewer", x.sheet(0, 8, 5), 5);
        is("no number 5", x.write(0, 5, 0), BEYOND);
        is("MISSING", x.sheet(0, 0, 40), 0);
        is("MISSING again", x.write(0, 0, 0), MISSING);
    }

    private static void p36() {
        begin(36);
        is("sheet -1", x.write(-1, 0, 0), BEYOND);
        is("sheet 4", x.write(4, 0, 0), BEYOND);
        is("MISSING before i", x.write(0, -1, 0), MISSING);
        x.sheet(0, 8, 2);
        x.sheet(1, 16, 2);
        x.sheet(2, 64, 2);
        is("i -1", x.write(0, -1, 0), BEYOND);
        is("i 2", x.write(0, 2, 0), BEYOND);
        is("i MAX", x.write(0, MAX, 0), BEYOND);
        is("8 bits", x.write(0, 1, 0x1237fL), 0);
        is("the lowest", x.write(0, 1, 0x80), 0x7f);
        is("as a byte", x.write(0, 1, -1), -128);
        is("-1", x.write(0, 1, 0), -1);
        is("the other stays", x.write(0, 0, 0), 0);
        is("16 bits", x.write(1, 0, 0x57733L), 0);
        is("the lowest", x.write(1, 0, 0x8000), 0x7733);
        is("as a short", x.write(1, 0, 0), -32768);
        is("64 bits", x.write(2, 0, Long.MIN_VALUE), 0);
        is("all of them", x.write(2, 0, BEYOND), Long.MIN_VALUE);
        int found = x.status(-1);
        is("what looks like a finding", x.write(2, 0, 0), BEYOND);
        is("is none", x.status(-1), found);
    }

    private static void p37() {
        begin(37);
        x.sheet(0, 8, 5);
        x.sheet(1, 8, 3);
        x.sheet(2, 16, 5);
        for (int i = 0; i < 5; i++) {
            x.write(0, i, i + 1);
        }
        is("sheet", x.copy(4, 0, 0, 0, 0), BEYOND);
        is("sheet -1", x.copy(0, 0, -1, 0, 0), BEYOND);
        is("no such sheet before MISSING", x.copy(3, 0, 4, 0, 0), BEYOND);
        is("MISSING", x.copy(3, 0, 0, 0, 0), MISSING);
        is("MISSING before KIND", x.copy(2, 0, 3, 0, 0), MISSING);
        is("MISSING before BEYOND", x.copy(0, -1, 3, 0, 0), MISSING);
        is("KIND", x.copy(0, 0, 2, 0, 0), KIND);
        is("KIND before BEYOND", x.copy(0, -1, 2, 0, 0), KIND);
        is("from", x.copy(0, -1, 1, 0, 1), BEYOND);
        is("to", x.copy(0, 0, 1, -1, 1), BEYOND);
        is("n", x.copy(0, 0, 1, 0, -1), BEYOND);
        is("source has not so many", x.copy(0, 3, 1, 0, 3), BEYOND);
        is("target has not so many", x.copy(0, 0, 1, 1, 3), BEYOND);
        is("great ones", x.copy(0, MAX, 1, 0, MAX), BEYOND);
        is("great from", x.copy(0, MAX, 1, 0, 1), BEYOND);
        is("great to", x.copy(0, 0, 1, MAX, 2), BEYOND);
        is("nothing at the end", x.copy(0, 5, 1, 3, 0), 0);
        is("behind the end", x.copy(0, 6, 1, 0, 0), BEYOND);
        is("two", x.copy(0, 2, 1, 1, 2), 2);
        is("0", x.write(1, 0, 0), 0);
        is("1", x.write(1, 1, 0), 3);
        is("2", x.write(1, 2, 0), 4);
        is("over itself, up", x.copy(0, 0, 0, 1, 4), 4);
        int[] up = {1, 1, 2, 3, 4};
        for (int i = 0; i < 5; i++) {
            is("up " + i, x.write(0, i, up[i]), up[i]);
        }
        is("over itself, down", x.copy(0, 2, 0, 0, 3), 3);
        int[] down = {2, 3, 4, 3, 4};
        for (int i = 0; i < 5; i++) {
            is("down " + i, x.write(0, i, 0), down[i]);
        }
    }

    private static void p38() {
        begin(38);
        is("sheet", x.read(4, 0), BEYOND);
        is("sheet -1", x.read(-1, 0), BEYOND);
        is("MISSING before rule", x.read(0, 9), MISSING);
        x.sheet(0, 16, 2);
        is("rule before STATE", x.read(0, 0), BEYOND);
        x.rule(0, 0, 0);
        is("STATE", x.read(0, 0), STATE);
        cares(0, 0, 0, 0);
        cares(1, 0);
        goings(1, 1);
        // RESTS: 1, 1001, 2001.
        is("none right", x.read(0, 0), 1);
        x.write(0, 0, 1);
        is("one right", x.read(0, 0), 2);
        x.write(0, 1, 1001);
        is("right, but not all", x.read(0, 0), 3);
        x.sheet(1, 64, 3);
        x.copy(0, 0, 1, 0, 0);
        x.write(1, 0, 1);
        x.write(1, 1, 1001);
        x.write(1, 2, 2001);
        is("all", x.read(1, 0), 0);
        x.write(1, 1, 2001);
        is("not by numbers", x.read(1, 0), 2);
        x.sheet(1, 64, 4);
        x.write(1, 0, 1);
        x.write(1, 1, 1001);
        x.write(1, 2, 2001);
        is("too many", x.read(1, 0), 4);
        x.write(1, 0, 1L << 32 | 1);
        is("all bits count", x.read(1, 0), 1);
        chase(38);
        x.sheet(0, 8, 0);
        is("no RESTS", x.read(0, 0), 0);
    }

    private static void p39() {
        begin(39);
        is("image", x.image(), 1);
        is("again", x.image(), 1);
        is("kept", x.undo(), 0);
    }

    private static void p40() {
        begin(40);
        is("nothing", x.undo(), NONE);
        cares(0, 1);
        cares(1, 2);
        goings(0, 3);
        goings(1, 0);
        harm("chance 32;size 10;");
        x.rule(1, 0, 0);
        x.set(1, 5);
        x.many(3, 9);
        feed("xyz");
        x.sheet(0, 8, 2);
        x.image();
        long cost = x.cost(0, 11, 0);
        is("cost", cost, (1 - 3) * UNIT + 32 * 512 * 5);
        cares(0, 9);
        cares(1, 9);
        goings(0, 9);
        goings(1, 9);
        x.wipe();
        harm("chance 1;size 1;");
        x.rule(0, 0, 0);
        x.cover(0, 1);
        x.set(0, 1);
        x.set(1, 6);
        x.set(2, 2);
        x.set(3, 3);
        x.set(4, 4);
        x.many(3, 1);
        x.write(0, 1, 77);
        feed("pq");
        int found = x.status(-1);
        for (int times = 0; times < 2; times++) {
            is("rules", x.undo(), 1);
            is("cares of 0", x.look(0), 1);
            is("cares of 1", x.look(1), 1);
            is("goings of 0", x.look(2), 2);
            is("goings of 1", x.look(3), 2);
            is("rules", x.look(4), 1);
            is("harm", x.hurt(11, 0), 32);
            is("cost", x.cost(0, 11, 0), cost);
            is("WRONG", x.set(0, 5), 0);
            is("PURSE", x.set(1, 9), 5);
            is("law of 0", x.set(2, 9), 0);
            is("law of 1", x.set(3, 9), 0);
            is("SHIFT", x.set(4, 9), 0);
            is("weight", x.many(3, 8), 9);
            is("rule, too", x.rule(1, 0, 0), 1);
            is("care, too", x.care(0, 0), 1);
        }
        is("THE TAPE stays", x.look(6), 2);
        is("SHEETS stay", x.write(0, 1, 0), 77);
        is("status stays", x.status(-1), found);
        x.image();
        is("the latest", x.undo(), 2);
        begin(40);
        x.image();
        cares(0, 0);
        cares(1, 0);
        harm("chance 5;size 5;");
        is("before", x.hurt(0, 0), 5);
        x.undo();
        cares(0, 0);
        cares(1, 0);
        is("no HARM again", x.hurt(0, 0), 0);
        is("nor HURT", x.hurt(0, 1), 0);
        is("look", x.look(5), 0);
    }

    private static void p41() {
        begin(41);
        is("nothing", x.tear(), 0);
        x.image();
        x.image();
        is("something", x.tear(), 1);
        is("nothing left", x.tear(), 0);
        is("undo", x.undo(), NONE);
        x.image();
        is("again", x.undo(), 0);
    }

    private static void p42() {
        begin(42);
        cares(0, 0, 0, 0);
        cares(1, 0, 0);
        goings(0, 0);
        goings(1, 0, 0, 0);
        harm("chance 1;size 1;");
        x.rule(0, 0, 0);
        x.rule(0, 0, 0);
        feed("abcde");
        int[] due = {3, 2, 2, 4, 2, 1, 5};
        for (int what = 0; what < 7; what++) {
            is("look(" + what + ")", x.look(what), due[what]);
        }
        is("-1", x.look(-1), BEYOND);
        is("7", x.look(7), BEYOND);
        is("MIN", x.look(MIN), BEYOND);
    }

    private static void p43() {
        begin(43);
        is("none", x.status(-1), 0);
        for (int which = 0; which < 7; which++) {
            is("none", x.status(which), 0);
        }
        x.look(9);
        x.look(9);
        for (int k = 0; k < 5; k++) {
            x.going(0, 1);
        }
        x.rule(0, 0, 0);
        x.of(0, 1);
        x.undo();
        x.image();
        x.least();
        x.least();
        x.least();
        x.write(0, 0, 0);
        x.sheet(0, 8, -1);
        x.undo();
        int[] due = {2, 2, 1, 1, 3, 1, 1};
        for (int which = 0; which < 7; which++) {
            is("status(" + which + ")", x.status(which), due[which]);
        }
        is("all", x.status(-1), 11);
        is("7", x.status(7), BEYOND);
        is("counted", x.status(0), 3);
        is("-2", x.status(-2), BEYOND);
        is("counted in all", x.status(-1), 13);
        x.told();
        is("a FAULT is no finding", x.status(-1), 13);
    }
}
