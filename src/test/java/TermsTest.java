import java.nio.file.Path;

/** The boundaries of the words in capitals: each sentence of the document's section "Terms", with a test of its own. */
public final class TermsTest {
    private static final long BEYOND = Sentences.BEYOND, FULL = Sentences.FULL, KIND = Sentences.KIND,
        NONE = Sentences.NONE, STATE = Sentences.STATE, MISSING = Sentences.MISSING, SIZE = Sentences.SIZE;
    private static final int TERMS = Sentences.TERMS;
    private static final long UNIT = 32768;

    private static Sentences s;

    public static void main(String[] args) throws Exception {
        s = new Sentences(Path.of(System.getProperty("shared.root", "../shared"), "DOC.md"));
        findings();
        two();
        tokens();
        grammar();
        faults();
        openOnes();
        values();
        chances();
        rules();
        dues();
        seen();
        suits();
        costs();
        answersAndRests();
        laws();
        manyAndSheets();
        s.askForAllWords(TERMS);
        if (!s.end()) {
            System.exit(1);
        }
    }

    private static void says(String words) {
        s.sentence(TERMS, words);
    }

    private static void findings() {
        says("FINDINGS are answers below -1000000000: -1000000001 BEYOND, -1000000002 FULL, -1000000003 KIND, "
            + "-1000000004 NONE, -1000000005 STATE, -1000000006 MISSING, -1000000007 SIZE.");
        s.answers("BEYOND", Scenes::town, x -> x.look(7), -1000000001);
        s.answers("FULL", Scenes::fullTown, x -> x.rule(0, 0, 0), -1000000002);
        s.answers("KIND", Scenes::town, x -> x.as(0, 1), -1000000003);
        s.answers("NONE", Scenes::nothing, CareRules::undo, -1000000004);
        s.answers("STATE", Scenes::nothing, CareRules::least, -1000000005);
        s.answers("MISSING", Scenes::nothing, x -> x.write(0, 0, 0), -1000000006);
        s.answers("SIZE", Scenes::nothing, x -> x.sheet(0, 8, -1), -1000000007);
        says("Each act tells its findings in the order in which they are asked; one that answers a finding changes "
            + "nothing but status().");
        s.refuses("FULL", Scenes::fullTown, x -> x.cover(0, 0), FULL);
        s.refuses("KIND", Scenes::town, x -> x.of(0, 1), KIND);
        s.refuses("NONE", Scenes::town, x -> x.breach(0, 2), NONE);
        s.refuses("STATE", Scenes::onlyDoer, x -> x.find(2), STATE);
        s.refuses("MISSING", Scenes::town, x -> x.read(3, 0), MISSING);
        s.refuses("SIZE", Scenes::town, x -> x.sheet(0, 0, -1), SIZE);
        s.refuses("BEYOND", Scenes::town, x -> x.status(7), BEYOND);
        says("Quotients are cut.");
        value("7/2", 3);
        value("10+(0-7)/2", 7);
        value("10+7/-2", 7);
        value("(0-7)/-2", 3);
        value("1/2", 0);
        value("10+-1/2", 10);
        says("Sets are told by bits.");
        s.answers("one of MANY each", Scenes::nothing, x -> x.many(0, 1) + x.many(7, 1) + x.whose(129, 2), 129);
        s.answers("both of the TWO", x -> {
            Scenes.cares(x, 0, 1, 0);
            Scenes.cares(x, 1, 1, 0);
            x.going(0, 5);
            x.going(1, 5);
            x.rule(0, 0, 0);
        }, x -> x.judge(0, 11), 3);
        says("COSTS are in 32768ths.");
        s.answers("a PRICE of 1", Scenes::nothing, x -> x.care(0, 1) + x.care(1, 0) + x.going(0, 0) + x.plain(10),
            1 + UNIT);
    }

    private static void two() {
        says("TWO: 0 (the doer) and 1 (the other).");
        s.within("one of the TWO", Scenes::nothing, (x, v) -> x.care(v, 0), 0, 1);
        s.within("one of the TWO", Scenes::nothing, (x, v) -> x.going(v, 0), 0, 1);
        s.answers("the doer pays", TermsTest::court, x -> x.cost(1, 11, 0), 96 * UNIT);
        s.answers("the other bears", TermsTest::court, x -> x.rule(0, 0, 0) * 0 + x.cost(4, 11, 1), 96 * UNIT);
        says("Each has CARES 0, 1, .. (at most 8), each with a PRICE (0 to 999)");
        for (int who = 0; who < 2; who++) {
            int one = who;
            s.within("PRICE", Scenes::nothing, (x, v) -> x.care(one, v), 0, 999);
            CareRules x = new CareRules();
            for (int k = 0; k < 8; k++) {
                s.is("CARE " + k, x.care(one, 999 - k), k);
            }
            s.is("CARE 8", x.care(one, 0), FULL);
            x.care(1 - one, 0);
            x.going(one, 0);
            for (int k = 0; k < 8; k++) {
                s.is("PRICE of " + k, x.plain(one == 0 ? 1000 * k + 10 : 100 * k + 1), (999 - k) * UNIT);
            }
        }
        says("and GOINGS 0, 1, 2, .. (at most 3 besides 0), each with a GAIN (0 to 9999; of GOING 0: 0)");
        for (int who = 0; who < 2; who++) {
            int one = who;
            s.within("GAIN", Scenes::nothing, (x, v) -> x.going(one, v), 0, 9999);
            CareRules x = new CareRules();
            for (int k = 1; k <= 3; k++) {
                s.is("GOING " + k, x.going(one, 10000 - k), k);
            }
            s.is("GOING 4", x.going(one, 0), FULL);
            Scenes.pair(x);
            s.is("GAIN of 0", x.plain(0), 0);
            for (int k = 1; k <= 3; k++) {
                s.is("GAIN of " + k, x.plain(one == 0 ? 10 * k : k), (k - 10000) * UNIT);
            }
        }
        says("DOINGS are a CARE and a GOING of each, told as a number of four digits: CARE of 0, CARE "
            + "of 1, GOING of 0, GOING of 1.");
        s.answers("each digit", Scenes::allAlike, x -> Scenes.harm(x, "chance 0;size a*1000+b*100+g*10+h;")
            + x.hurt(7531, 1), 7532);
        s.answers("the first", Scenes::allAlike, x -> x.best(0), 0);
        s.answers("the last", Scenes::allAlike, x -> x.best(1023), 7733);
    }

    private static void harmIs(String text, long due) {
        s.answers("'" + text + "'", Scenes::nothing, x -> Scenes.harm(x, text), due);
    }

    private static void toldIs(String text, long due) {
        s.answers("'" + text + "'", Scenes::nothing, x -> Scenes.told(x, text), due);
    }

    private static void tokens() {
        says("TEXTS are read from THE TAPE (bytes, at most 120).");
        s.answers("120", Scenes::nothing, x -> Scenes.told(x, "pays" + " ".repeat(115) + "9") + x.due(0, 0, 0, 0), 9);
        s.answers("the 121st isn't there", Scenes::nothing,
            x -> Scenes.told(x, "pays" + " ".repeat(115) + "91") + x.due(0, 0, 0, 0), 9);
        s.answers("120 of a HARM", Scenes::pair,
            x -> Scenes.harm(x, "chance " + "0".repeat(104) + "1;size 1;") + x.hurt(0, 1), 2);
        says("TOKENS, each as long as can be");
        toldIs("pays10", 0);
        toldIs("pays 1 0", -8);
        toldIs("pays ab", -6);
        toldIs("pays a b", -8);
        toldIs("paysa", -1);
        toldIs("pa ys 1", -1);
        toldIs("pays 12a", -8);
        toldIs("pays 9999", 0);
        toldIs("pays 999 9", -10);
        says("WORDS (letters a to z)");
        toldIs("pays A", -6);
        toldIs("Pays 1", -1);
        toldIs("pays `", -6);
        toldIs("pays {", -6);
        toldIs("pays z", -6);
        toldIs("pays aA", -7);
        says("NUMBERS (digits, 9999 at most)");
        toldIs("pays 0", 0);
        toldIs("pays 9999", 0);
        toldIs("pays 10000", -6);
        toldIs("pays 1+10000", -8);
        toldIs("pays 0009999", 0);
        toldIs("pays 00010000", -6);
        toldIs("pays 4294967296", -6);
        toldIs("pays 4294967297", -6);
        toldIs("pays 18446744073709551617", -6);
        toldIs("pays " + "9".repeat(115), -6);
        toldIs("pays " + "0".repeat(115), 0);
        says("SIGNS ; < = + - * / ( )");
        for (int one = 0; one < 256; one++) {
            // Behind a whole E: a sign that joins ends too early; ; and ) can't stand; nor can what begins no TOKEN.
            boolean joins = "<=+-*/".indexOf(one) >= 0;
            boolean part = one >= '0' && one <= '9' || one == ' ';
            toldIs("pays 1" + (char) one, part ? 0 : joins ? -8 : -7);
        }
        for (int one = 0; one < 256; one++) {
            // In place of an E: digits, NAMES; ( and - end too early; a blank, too.
            boolean good = one >= '0' && one <= '9' || "abgh".indexOf(one) >= 0;
            boolean early = one == '(' || one == '-' || one == ' ';
            toldIs("pays " + (char) one, good ? 0 : early ? -7 : -6);
        }
        says("blanks may stand between.");
        harmIs(" chance  a <  b ; size ( 1 ) + - 2 ;  ", 1);
        harmIs("chance a<b;size(1)+-2;", 1);
        harmIs("chance1;size2;", 1);
        toldIs("   pays   1   ", 0);
        toldIs("pays 1\t", -7);
        toldIs("pays\n1", -5);
    }

    private static void grammar() {
        says("A HARM is: chance E ; size E ;");
        harmIs("chance 1;size 1;", 1);
        harmIs("size 1;chance 1;", -1);
        harmIs("chance 1 size 1;", -10);
        harmIs("chance 1;size 1", -16);
        harmIs("chance 1;;size 1;", -10);
        harmIs("chance 1;size 1;size 1;", -17);
        harmIs("chance ;size 1;", -8);
        harmIs("chance 1;size ;", -15);
        harmIs("chance chance;size 1;", -8);
        harmIs("pays 1", -1);
        harmIs("chance 1;pays 1;", -10);
        harmIs("pays 1;size 1;", -1);
        says("what a TOLD rule says: pays E (no ; behind)");
        toldIs("pays 1", 0);
        toldIs("pays 1;", -7);
        toldIs("pays", -5);
        toldIs("pays pays", -6);
        toldIs("1", -1);
        toldIs("chance 1", -1);
        toldIs("size 1", -1);
        says("E: SUM, perhaps < or = and a SUM.");
        toldIs("pays 1<2", 0);
        toldIs("pays 1=2", 0);
        toldIs("pays 1<2<3", -9);
        toldIs("pays 1=2=3", -9);
        toldIs("pays 1<2=3", -9);
        toldIs("pays 1=2<3", -9);
        toldIs("pays (1<2)<3", 0);
        toldIs("pays 1<(2<3)", 0);
        toldIs("pays <1", -6);
        toldIs("pays 1<", -8);
        toldIs("pays 1<=2", -8);
        says("SUM: TERM, and any of + or - and a TERM. TERM: ONE, and any of * or / and a ONE.");
        value("1+2-3+4", 4);
        value("2*3/4*5", 5);
        value("1+2*3", 7);
        value("10-4-3", 3);
        value("60/3/2", 10);
        value("2*3+4*5", 26);
        toldIs("pays +1", -6);
        toldIs("pays *1", -6);
        toldIs("pays 1+", -8);
        toldIs("pays 1*", -8);
        toldIs("pays 1+*2", -8);
        toldIs("pays 1*+2", -8);
        toldIs("pays 1//2", -8);
        says("ONE: a NUMBER, a NAME, ( E ), - ONE.");
        value("(7)", 7);
        value("(1<2)+(2=2)", 2);
        value("--7", 7);
        value("-(0-7)", 7);
        value("3*-2+7", 1);
        value("3--4", 7);
        value("0--a", 3);
        toldIs("pays ()", -7);
        toldIs("pays (1", -8);
        toldIs("pays 1)", -7);
        toldIs("pays (1))", -9);
        toldIs("pays (1;)", -8);
        toldIs("pays -", -7);
        toldIs("pays -+1", -7);
        toldIs("pays -)", -7);
        toldIs("pays 2(1)", -7);
        toldIs("pays (1)2", -9);
        toldIs("pays a(1)", -7);
        says("NAMES: a b g h (CARE of 0, of 1, GOING of 0, of 1).");
        value("a", 3);
        value("b", 5);
        value("g", 1);
        value("h", 2);
        for (String word : "c d e f i z aa ab gh abgh size chance pays".split(" ")) {
            toldIs("pays " + word, -6);
            harmIs("chance " + word + ";size 1;", -8);
        }
    }

    private static void faults() {
        says("FAULT: the place of the first byte of the first TOKEN that can't stand there");
        toldIs("pays 1 2 10000", -8);
        toldIs("pays 1+ ) ?", -9);
        toldIs("pays   chance", -8);
        harmIs("chance 1;chance 10000;", -10);
        says("a NUMBER that is too great");
        toldIs("pays 1+ 12345 )", -9);
        toldIs("pays 1 12345", -8);
        says("a WORD that is none of these");
        toldIs("pays 1+ size", -9);
        toldIs("pays 1+ ax", -9);
        toldIs("pays 1+ xa", -9);
        toldIs("pays -x1", -7);
        toldIs("pays (x1)", -7);
        toldIs("pays 1 x", -8);
        harmIs("chanc 1;size 1;", -1);
        harmIs("chance 1;sizes 1;", -10);
        says("a byte that begins no TOKEN");
        toldIs("pays 1+ ?", -9);
        toldIs("?pays 1", -1);
        toldIs("pays 1 ?", -8);
        toldIs("pays a?", -7);
        toldIs("pays 1+ " + (char) 0, -9);
        toldIs("pays 1+ " + (char) 255, -9);
        toldIs("pays 1+ " + (char) 160, -9);
        says("or how many bytes there are if it ends too early.");
        toldIs("", -1);
        toldIs(" ", -2);
        toldIs(" ".repeat(120), -121);
        toldIs("pays", -5);
        toldIs("pays   ", -8);
        toldIs("pays 1+", -8);
        toldIs("pays 1+   ", -11);
        toldIs("pays (1  ", -10);
        toldIs("pays " + "1+".repeat(57) + "+", -120);
        toldIs("pays " + "1+".repeat(57) + " ", -121);
        harmIs("", -1);
        harmIs("chance", -7);
        harmIs("chance 1;size 1  ", -18);
        harmIs("chance 1;", -10);
    }

    private static void openOnes() {
        says("a ( or a - ahead of a ONE while 8 of these are open (a ( till its ), a - till its ONE ends): its own");
        toldIs("pays ((((((((1))))))))", 0);
        toldIs("pays (((((((((1)))))))))", -14);
        toldIs("pays --------1", 0);
        toldIs("pays ---------1", -14);
        toldIs("pays -(-(-(-(1))))", 0);
        toldIs("pays -(-(-(-((1)))))", -14);
        toldIs("pays -(-(-(-(-1))))", -14);
        toldIs("pays ((((((((-1))))))))", -14);
        toldIs("pays (((((((-(1))))))))", -14);
        toldIs("pays --------(1)", -14);
        toldIs("pays ((((((((1-1))))))))", 0);
        toldIs("pays ((((((((1--1))))))))", -16);
        toldIs("pays ((((((((1-(1)))))))))", -16);
        toldIs("pays ((((((((1))))))))+((((((((1))))))))", 0);
        toldIs("pays --------1---------1", 0);
        toldIs("pays --------1----------1", -24);
        toldIs("pays --------1*--------1", 0);
        toldIs("pays --------1*---------1", -24);
        toldIs("pays -(-1)+((((((((1))))))))", 0);
        toldIs("pays (((((((1)+((1)))))))))", -27);
        toldIs("pays (((((((1)+((1))))))))", 0);
        toldIs("pays (((((((1)+(((1)))))))))", -18);
        toldIs("pays (((((((-1-(1))))))))", 0);
        toldIs("pays (((((((-1-(-1))))))))", -17);
        toldIs("pays ((((((((", -14);
        toldIs("pays (((((((((", -14);
        toldIs("pays --------", -14);
        toldIs("pays ---------", -14);
        harmIs("chance ((((((((1))))))));size --------1;", 1);
        harmIs("chance ((((((((1))))))));size (((((((((1)))))))));", -39);
    }

    /** HURT at a 3, b 5, g 1, h 2. */
    private static void value(String e, long due) {
        s.answers(e, Scenes::allAlike, x -> Scenes.harm(x, "chance 0;size " + e + ";") * 0 + x.hurt(3512, 1), due);
    }

    private static void values() {
        says("An E is an int (32 bits, wrapping)");
        // 2 to the 31st is 8192 * 8192 * 32.
        value("8192*8192*32<0", 1);
        value("8192*8192*32-1", 9999);
        value("8192*8192*32-1<0", 0);
        value("-(8192*8192*32)<0", 1);
        value("8192*8192*32/-1<0", 1);
        value("8192*8192*32/-1=8192*8192*32", 1);
        value("8192*8192*64", 0);
        value("8192*8192*64+7", 7);
        value("8192*8192*32+8192*8192*32+9", 9);
        value("0-8192*8192*32-1", 9999);
        value("8192*8192*32-1+1<0", 1);
        // 9999 * 9999 * 43 is 2 to the 32nd and 4172747.
        value("9999*9999*43-4172*1000", 747);
        s.answers("of a TOLD rule", Scenes::nothing,
            x -> Scenes.told(x, "pays 8192*8192*64+33") + x.due(0, 0, 0, 0), 33);
        says("< = are 1 or 0");
        value("2<3", 1);
        value("3<3", 0);
        value("4<3", 0);
        value("3=3", 1);
        value("3=4", 0);
        value("-1<0", 1);
        value("5+(2<3)*2+(2=3)", 7);
        says("by 0 a quotient is 0.");
        value("7/0", 0);
        value("0/0", 0);
        value("7/(a-3)+5", 5);
        value("8192*8192*32/0+1", 1);
        value("7/0*3+2", 2);
    }

    private static long chance(CareRules x, String e, int shift) {
        Scenes.harm(x, "chance " + e + ";size 1;");
        x.set(4, shift);
        return x.hurt(0, 0);
    }

    private static void chanceIs(String e, int shift, long due) {
        s.answers(e + " and " + shift, Scenes::pair, x -> chance(x, e, shift), due);
    }

    private static void hurtIs(String e, long due) {
        s.answers(e, Scenes::pair, x -> Scenes.harm(x, "chance 0;size " + e + ";") * 0 + x.hurt(0, 1), due);
    }

    private static void chances() {
        says("At DOINGS: CHANCE: E of chance and SHIFT (0 at first), 0 at least, 64 at most, in 64ths");
        s.answers("SHIFT at first", Scenes::pair, x -> Scenes.harm(x, "chance 5;size 1;") * 0 + x.hurt(0, 0), 5);
        int[][] due = {{-1, 0, 0}, {0, 0, 0}, {1, 0, 1}, {63, 0, 63}, {64, 0, 64}, {65, 0, 64}, {9999, 0, 64},
            {0, -1, 0}, {1, -1, 0}, {2, -1, 1}, {63, 1, 64}, {64, 1, 64}, {64, -1, 63}, {65, -1, 64}, {65, -2, 63},
            {-64, 64, 0}, {-63, 64, 1}, {-65, 64, 0}, {0, 64, 64}, {-1, 64, 63}, {64, -64, 0}, {65, -64, 1},
            {127, -64, 63}, {128, -64, 64}, {129, -64, 64}, {9999, -64, 64}, {-9999, 64, 0}, {0, -64, 0}};
        for (int[] row : due) {
            chanceIs(String.valueOf(row[0]), row[1], row[2]);
        }
        says("HURT: E of size, 0 at least, 9999 at most.");
        hurtIs("0", 0);
        hurtIs("-1", 0);
        hurtIs("-9999", 0);
        hurtIs("9998", 9998);
        hurtIs("9999", 9999);
        hurtIs("9999+1", 9999);
        hurtIs("8192*8192*32-1", 9999);
        hurtIs("8192*8192*32", 0);
        s.answers("SHIFT is of CHANCE alone", Scenes::pair, x -> chance(x, "1", 9) + x.hurt(0, 1), 11);
        says("As long as no HARM was read CHANCE and HURT are 0 (SHIFT doesn't count).");
        s.answers("CHANCE", Scenes::pair, x -> x.set(4, 64) + x.hurt(0, 0), 0);
        s.answers("HURT", Scenes::pair, x -> x.set(4, 64) + x.hurt(0, 1), 0);
        s.answers("PLAIN", Scenes::allAlike, x -> x.set(4, 64) + x.plain(7733), 0);
        s.answers("COST", Scenes::allAlike, x -> x.set(4, 64) + x.rule(1, 0, 0) + x.cost(1, 7733, 3), 1);
        s.answers("a FAULT is no HARM", Scenes::pair, x -> Scenes.harm(x, "chance 9;") * 0 + x.hurt(0, 0), 0);
        s.answers("after a HARM it does", Scenes::pair, x -> chance(x, "0", 64), 64);
        s.answers("undone", x -> {
            Scenes.pair(x);
            x.image();
            Scenes.harm(x, "chance 1;size 1;");
            x.hurt(0, 0);
            x.undo();
        }, x -> x.set(4, 64) + x.hurt(0, 0) + x.hurt(0, 1), 0);
        says("(E and SHIFT together don't wrap.)");
        chanceIs("8192*8192*32-1", 64, 64);
        chanceIs("8192*8192*32-1", 1, 64);
        chanceIs("8192*8192*32-1", -64, 64);
        chanceIs("8192*8192*32", -64, 0);
        chanceIs("8192*8192*32", -1, 0);
        chanceIs("8192*8192*32", 64, 0);
    }

    private static void rules() {
        says("RULES 0, 1, .. (at most 20) are of a kind: 0 RULE, 1 STRICT, 2 CARE (a bar), 3 PARTS under CARE (a bar, "
            + "an other bar, a share), 4 TURNED (a bar), 5 COVER (of a rule, a part), 6 TOLD (a TEXT); all "
            + "under RULE.");
        for (int rule = 0; rule < 7; rule++) {
            int one = rule;
            s.answers("kind " + rule, Scenes::town, y -> y.of(one, 0), rule);
            s.answers("as itself", Scenes::town, y -> y.as(one, one), rule);
            s.answers("under RULE", Scenes::town, y -> y.as(one, 0), rule);
        }
        s.answers("PARTS under CARE", Scenes::town, y -> y.as(3, 2), 3);
        s.answers("CARE not under PARTS", Scenes::town, y -> y.as(2, 3), KIND);
        s.answers("TURNED not under CARE", Scenes::town, y -> y.as(4, 2), KIND);
        CareRules x = new CareRules();
        for (int k = 0; k < 20; k += 4) {
            s.is("RULE " + k, x.rule(0, 0, 0), k);
            s.is("RULE " + (k + 1), x.cover(k, 1), k + 1);
            s.is("RULE " + (k + 2), Scenes.told(x, "pays 1"), k + 2);
            s.is("RULE " + (k + 3), x.rule(3, 11, 1), k + 3);
        }
        s.is("no more", x.rule(0, 0, 0), FULL);
        s.is("no more", x.cover(0, 0), FULL);
        s.is("no more", x.told(), FULL);
        s.is("the last", x.of(19, 0), 3);
        s.is("none behind it", x.of(20, 0), BEYOND);
    }

    /** DUE of 0 by the last RULE, and that of the THIRD as hundreds. */
    private static void dueIs(String what, Sentences.Scene scene, int seen, int other, long due) {
        s.answers(what + " at " + seen + ", " + other, scene,
            x -> x.due(x.look(4) - 1, seen, other, 0) + 100 * x.due(x.look(4) - 1, seen, other, 2), due);
    }

    private static Sentences.Scene bars(int kind, int a, int b) {
        return x -> x.rule(kind, a, b);
    }

    private static Sentences.Scene text(String e) {
        return x -> Scenes.told(x, "pays " + e);
    }

    private static Sentences.Scene covered(String e, int... parts) {
        return x -> {
            Scenes.told(x, "pays " + e);
            for (int part : parts) {
                x.cover(x.look(4) - 1, part);
            }
        };
    }

    private static void dues() {
        says("DUE of 0, in 64ths of HURT, by a CARE of 0 as it is SEEN and the CARE of 1: RULE: 0; STRICT: 64;");
        for (int care = 0; care < 8; care += 7) {
            dueIs("RULE", bars(0, 8, 8), care, 7 - care, 0);
            dueIs("STRICT", bars(1, 8, 8), care, 7 - care, 64);
        }
        says("CARE: 64 if the CARE of 0 is below the bar, else as RULE;");
        for (int bar = 0; bar <= 8; bar++) {
            for (int care = 0; care < 8; care++) {
                dueIs("bar " + bar, bars(2, bar, 0), care, 7 - care, care < bar ? 64 : 0);
            }
        }
        says("PARTS: if both are below their bars 8 times the share, else as CARE;");
        dueIs("both below", bars(3, 24, 3), 1, 3, 24);
        dueIs("1 at its bar", bars(3, 24, 3), 1, 4, 64);
        dueIs("0 at its bar", bars(3, 24, 3), 2, 3, 0);
        dueIs("both at them", bars(3, 24, 3), 2, 4, 0);
        dueIs("share 0", bars(3, 88, 0), 7, 7, 0);
        dueIs("share 8", bars(3, 88, 8), 7, 7, 64);
        dueIs("other bar 0", bars(3, 80, 1), 7, 0, 64);
        dueIs("bar 0", bars(3, 8, 1), 0, 0, 0);
        says("TURNED: as RULE if the CARE of 1 is below the bar, else 64;");
        for (int bar = 0; bar <= 8; bar++) {
            for (int care = 0; care < 8; care++) {
                dueIs("bar " + bar, bars(4, bar, 0), 7 - care, care, care < bar ? 0 : 64);
            }
        }
        says("TOLD: E (with a as SEEN, b; g, h are 0), 0 at least, 64 at most;");
        dueIs("a, b", text("a*8+b"), 3, 5, 29);
        dueIs("g, h", text("7+g*50+h*50"), 3, 5, 7);
        dueIs("0", text("0"), 0, 0, 0);
        dueIs("-1", text("-1"), 0, 0, 0);
        dueIs("63", text("63"), 0, 0, 63);
        dueIs("64", text("64"), 0, 0, 64);
        dueIs("65", text("65"), 0, 0, 64);
        dueIs("greatest", text("8192*8192*32-1"), 0, 0, 64);
        dueIs("least", text("8192*8192*32"), 0, 0, 0);
        dueIs("7, 7", text("a*b"), 7, 7, 49);
        says("COVER: that of its rule, less what the THIRD bears by the COVER: part eighths of that (cut).");
        for (int part = 0; part <= 8; part++) {
            int third = 13 * part / 8;
            dueIs("part " + part + " of 13", covered("13", part), 0, 0, 13 - third + 100 * third);
            dueIs("part " + part + " of 64", covered("64", part), 0, 0, 64 - 8 * part + 800 * part);
            dueIs("part " + part + " of 0", covered("0", part), 0, 0, 0);
        }
        dueIs("1/8 of 7", covered("7", 1), 0, 0, 7);
        dueIs("7/8 of 1", covered("1", 7), 0, 0, 1);
        says("DUE of the THIRD: 0; of a COVER that of its rule, and what it bears by the COVER.");
        dueIs("COVER of a COVER", covered("50", 4, 4), 0, 0, 13 + 3700);
        dueIs("three of them", covered("50", 4, 4, 3), 0, 0, 9 + 4100);
        dueIs("part 8 twice", covered("50", 8, 8), 0, 0, 5000);
        dueIs("part 0", covered("50", 4, 0), 0, 0, 25 + 2500);
    }

    /** CHANCE 64, HURT 96, all is free, GOINGS 1 there; RULE 0 has DUE 8 * (1 + a). */
    private static void court(CareRules x) {
        Scenes.cares(x, 0, 0, 0, 0);
        x.care(1, 0);
        x.going(0, 0);
        x.going(1, 0);
        Scenes.told(x, "pays 8+8*a");
        x.rule(1, 0, 0);
        x.cover(1, 4);
        Scenes.told(x, "pays 1");
        Scenes.harm(x, "chance 64;size 96;");
    }

    private static long costWith(CareRules x, int what, int v, int rule, int doings, int who) {
        x.set(what, v);
        return x.cost(rule, doings, who);
    }

    private static void seen() {
        says("A HARM at DOINGS goes so, CARE of 0 being SEEN in WRONG eighths (0 at first) one less than it is (0 at "
            + "least), else as it is");
        // By CARE 2: 24/64 of 96 are 36; seen as 1: 24. By CARE 1: 24; seen as 0: 12. By CARE 0: 12 both ways.
        s.answers("at first", TermsTest::court, x -> x.cost(0, 2011, 0), 36 * UNIT);
        for (int v = 0; v <= 8; v++) {
            int wrong = v;
            s.answers("CARE 2, WRONG " + v, TermsTest::court, x -> costWith(x, 0, wrong, 0, 2011, 0),
                ((8 - v) * 36 + v * 24) * UNIT / 8);
            s.answers("CARE 1, WRONG " + v, TermsTest::court, x -> costWith(x, 0, wrong, 0, 1011, 0),
                ((8 - v) * 24 + v * 12) * UNIT / 8);
            s.answers("CARE 0, WRONG " + v, TermsTest::court, x -> costWith(x, 0, wrong, 0, 11, 0), 12 * UNIT);
            s.answers("1 bears what is left", TermsTest::court, x -> costWith(x, 0, wrong, 0, 2011, 1),
                96 * UNIT - ((8 - v) * 36 + v * 24) * UNIT / 8);
        }
        says("(All exactly, by the eighths.)");
        s.answers("1 of 8, by 64ths", TermsTest::court, x -> {
            Scenes.harm(x, "chance 1;size 1;");
            return costWith(x, 0, 1, 0, 2011, 0);
        }, 7 * 24 + 16);
        // Seen as it is 36, one less 24: 1 goes to LAW in the one case and not in the other.
        s.answers("LAW by each alone", TermsTest::court, x -> x.set(0, 4) + costWith(x, 3, 24, 0, 2011, 0), 18 * UNIT);
        s.answers("1, too", TermsTest::court, x -> x.set(0, 4) + costWith(x, 3, 24, 0, 2011, 1),
            (60 + 24 + 96) * UNIT / 2);
        s.answers("the PURSE by each alone", TermsTest::court, x -> x.set(0, 4) + costWith(x, 1, 30, 0, 2011, 0),
            (30 + 24) * UNIT / 2);
    }

    private static void suits() {
        says("1 goes to LAW if DUES of 0 and of the THIRD of HURT together are above what LAW costs 1 (0 at first).");
        s.answers("95", TermsTest::court, x -> costWith(x, 3, 95, 1, 11, 0), 96 * UNIT);
        s.answers("96", TermsTest::court, x -> costWith(x, 3, 96, 1, 11, 0), 0);
        s.answers("97", TermsTest::court, x -> costWith(x, 3, 97, 1, 11, 0), 0);
        s.answers("together 95", TermsTest::court, x -> costWith(x, 3, 95, 2, 11, 2), 48 * UNIT);
        s.answers("together 96", TermsTest::court, x -> costWith(x, 3, 96, 2, 11, 2), 0);
        // A 64th of 96 is 1 and 1/2.
        s.answers("above 1", TermsTest::court, x -> costWith(x, 3, 1, 3, 11, 0), 3 * UNIT / 2);
        s.answers("not above 2", TermsTest::court, x -> costWith(x, 3, 2, 3, 11, 0), 0);
        s.answers("0 is above 0 nowhere", TermsTest::court, x -> {
            Scenes.harm(x, "chance 64;size 0;");
            return costWith(x, 2, 9, 1, 11, 0);
        }, 0);
        s.answers("nor without DUE", TermsTest::court, x -> {
            Scenes.told(x, "pays 0");
            return costWith(x, 2, 9, 4, 11, 0);
        }, 0);
        says("If not, 1 bears HURT.");
        s.answers("all of it", TermsTest::court, x -> costWith(x, 3, 96, 1, 11, 1), 96 * UNIT);
        s.answers("and no LAW", TermsTest::court, x -> costWith(x, 3, 9999, 1, 11, 3), 96 * UNIT);
        says("Else 0 pays its DUE of HURT, but no more than its PURSE (9999 at first), and what LAW costs 0 (0 at "
            + "first)");
        s.answers("PURSE 97", TermsTest::court, x -> costWith(x, 1, 97, 1, 11, 0), 96 * UNIT);
        s.answers("PURSE 96", TermsTest::court, x -> costWith(x, 1, 96, 1, 11, 0), 96 * UNIT);
        s.answers("PURSE 95", TermsTest::court, x -> costWith(x, 1, 95, 1, 11, 0), 95 * UNIT);
        s.answers("PURSE 0", TermsTest::court, x -> costWith(x, 1, 0, 1, 11, 0), 0);
        s.answers("LAW beside the PURSE", TermsTest::court, x -> x.set(2, 7) + costWith(x, 1, 0, 1, 11, 0), 7 * UNIT);
        s.answers("PURSE 1 and DUE 1 and 1/2", TermsTest::court, x -> costWith(x, 1, 1, 3, 11, 0), UNIT);
        s.answers("PURSE 2 and DUE 1 and 1/2", TermsTest::court, x -> costWith(x, 1, 2, 3, 11, 0), 3 * UNIT / 2);
        says("the THIRD pays its DUE; 1 bears what is left of HURT, and what LAW costs 1.");
        s.answers("the THIRD has no PURSE", TermsTest::court, x -> costWith(x, 1, 0, 2, 11, 2), 48 * UNIT);
        s.answers("what the PURSE leaves", TermsTest::court, x -> costWith(x, 1, 10, 2, 11, 1), 38 * UNIT);
        s.answers("and LAW", TermsTest::court, x -> x.set(1, 10) * 0 + costWith(x, 3, 5, 2, 11, 1), 43 * UNIT);
        s.answers("nothing is left", TermsTest::court, x -> x.cost(1, 11, 1), 0);
        s.answers("but LAW", TermsTest::court, x -> costWith(x, 3, 5, 1, 11, 1), 5 * UNIT);
    }

    /** What is dearest: PRICES 999 and 998, HURT 9999 for sure; GOING 1 gains the most. */
    private static void dear(CareRules x) {
        Scenes.cares(x, 0, 999);
        Scenes.cares(x, 1, 998);
        Scenes.goings(x, 0, 9999, 1, 0);
        Scenes.goings(x, 1, 9999, 2, 0);
        x.rule(1, 0, 0);
        x.cover(0, 8);
        x.rule(0, 0, 0);
        Scenes.harm(x, "chance 64;size 9999;");
    }

    private static void costs() {
        says("COST of one of the TWO at DOINGS: GOING times PRICE, less GAIN, and CHANCE times GOING of 0 times GOING "
            + "of 1 times what it pays or bears of such a HARM.");
        s.answers("the greatest of 0", TermsTest::dear, x -> costWith(x, 2, 9999, 0, 33, 0),
            (3 * 999 + 9L * 2 * 9999) * UNIT);
        s.answers("the greatest of 1", TermsTest::dear, x -> x.set(1, 0) * 0 + costWith(x, 3, 9998, 0, 33, 1),
            (3 * 998 + 9L * (9999 + 9998)) * UNIT);
        s.answers("the least of 0", TermsTest::dear, x -> x.cost(2, 10, 0), (999 - 9999) * UNIT);
        s.answers("GOING 0 of 1: no HARM", TermsTest::dear, x -> x.cost(0, 30, 0), 3 * 999 * UNIT);
        s.answers("GOING 0 of 0: no HARM", TermsTest::dear, x -> x.cost(0, 3, 0), 0);
        s.answers("nor PRICE", TermsTest::dear, x -> x.cost(0, 0, 3), 0);
        s.answers("2 times 3", TermsTest::dear, x -> x.cost(0, 23, 0), (2 * 999 - 1 + 6L * 9999) * UNIT);
        says("COST of the THIRD likewise.");
        s.answers("the greatest", TermsTest::dear, x -> x.cost(1, 33, 2), 9L * 9999 * UNIT);
        s.answers("no PRICE, no GAIN", TermsTest::dear, x -> x.cost(1, 10, 2), 0);
        says("TOTAL by a RULE: these three.");
        s.answers("the greatest", TermsTest::dear,
            x -> x.set(2, 9999) * 0 + x.set(3, 9998) * 0 + x.cost(1, 33, 3),
            (3 * (999 + 998) + 9L * (9999 + 9999 + 9998)) * UNIT);
        says("PLAIN at DOINGS: GOINGS times PRICES, less GAINS, and CHANCE times both GOINGS times HURT.");
        s.answers("the greatest", TermsTest::dear, x -> x.plain(33), (3 * (999 + 998) + 9L * 9999) * UNIT);
        s.answers("the least", TermsTest::dear, x -> x.set(4, -64) * 0 + x.plain(11), (999 + 998 - 2 * 9999) * UNIT);
        s.answers("0", TermsTest::dear, x -> x.plain(0), 0);
        says("THE LEAST: the least PLAIN of all DOINGS; BEST are DOINGS with that, by numbers.");
        s.answers("above 0 never", x -> {
            Scenes.cares(x, 0, 999);
            Scenes.cares(x, 1, 999);
            x.going(0, 0);
        }, x -> x.least() + x.best(-1), 1);
        s.answers("the least of all", TermsTest::dear, x -> costWith(x, 4, -64, 2, 0, 0) + x.least(),
            (999 + 998 - 2 * 9999) * UNIT);
        s.answers("by numbers", Scenes::allAlike, x -> 10000 * x.best(16) + x.best(17), 1000101);
    }

    /** Nothing costs anything: all DOINGS are RESTS. */
    private static void even(CareRules x) {
        Scenes.cares(x, 0, 0, 0);
        Scenes.cares(x, 1, 0, 0);
        Scenes.goings(x, 0, 0, 0);
        Scenes.goings(x, 1, 0, 0);
        x.rule(0, 0, 0);
    }

    private static void answersAndRests() {
        says("By a RULE: ANSWER of one of the TWO at DOINGS: its CARE and GOING that cost it least, the other's being "
            + "as they are; of like ones the least CARE, then the least GOING.");
        s.answers("all alike", TermsTest::even, x -> 100 * x.answer(0, 0, 1122) + x.answer(0, 1, 1122), 0);
        s.answers("like CARES", x -> {
            Scenes.cares(x, 0, 9, 5, 5);
            x.care(1, 0);
            x.going(0, 20);
            x.rule(0, 0, 0);
        }, x -> x.answer(0, 0, 2010), 11);
        s.answers("like GOINGS", x -> {
            x.care(0, 0);
            Scenes.cares(x, 1, 5, 9);
            Scenes.goings(x, 1, 3, 15, 20);
            x.rule(0, 0, 0);
        }, x -> x.answer(0, 1, 3), 2);
        // CARE 0 with GOING 2 costs what CARE 1 with GOING 1 does, if 1 goes out.
        s.answers("CARE ahead of GOING", x -> {
            Scenes.cares(x, 0, 2, 4);
            x.care(1, 0);
            Scenes.goings(x, 0, 6, 6);
            x.going(1, 0);
            x.rule(1, 0, 0);
            Scenes.harm(x, "chance 64;size 3*(a=0)*(g=1);");
        }, x -> 100 * x.answer(0, 0, 1011) + x.answer(0, 0, 1010), 201);
        says("DOINGS are a REST, if none of the TWO could do with less COST by another CARE or GOING of its own.");
        s.answers("as much is no less", TermsTest::even, x -> x.rest(0, -1), 36);
        s.answers("judged so", TermsTest::even, x -> x.judge(0, 1122), 0);
        s.answers("a 32768th less is less", x -> {
            Scenes.cares(x, 0, 0, 0);
            x.care(1, 0);
            x.going(0, 9);
            x.going(1, 9);
            Scenes.told(x, "pays 1");
            x.set(0, 7);
            Scenes.told(x, "pays 1-(a=1)");
            Scenes.harm(x, "chance 1;size 1;");
        }, x -> 10 * x.judge(1, 11) + x.judge(1, 1011), 10);
        says("RESTS are told by numbers.");
        CareRules x = new CareRules();
        even(x);
        int last = -1;
        for (int i = 0; i < 36; i++) {
            int rest = x.rest(0, i);
            s.is("a greater number", rest > last ? 1 : 0, 1);
            last = rest;
        }
        s.is("the last", last, 1122);
        says("LOST of a REST: TOTAL less THE LEAST.");
        // By the COVER of all that is due 0 takes no care: HURT 96 for sure, of which CARE 1 would have saved 90.
        s.answers("what the THIRD bears counts", y -> {
            Scenes.cares(y, 0, 0, 10);
            y.care(1, 0);
            y.going(0, 999);
            y.going(1, 999);
            y.rule(1, 0, 0);
            y.cover(0, 8);
            Scenes.harm(y, "chance 64;size 96-a*90;");
        }, y -> y.lost(1, 0), 80 * UNIT);
        s.answers("by CARES that are alike", TermsTest::even, y -> y.lost(0, 35), 0);
    }

    private static void lawIs(String e, int law, long breach) {
        Sentences.Scene scene = x -> {
            // CARES 0, 1, 2 of both; the first BEST is 1011.
            Scenes.cares(x, 0, 0, 1, 9);
            Scenes.cares(x, 1, 0, 1, 1);
            x.going(0, 99);
            x.going(1, 99);
            Scenes.harm(x, "chance 64*(a=0);size 50;");
            Scenes.told(x, "pays " + e);
        };
        s.answers("keeps " + law + " by " + e, scene, x -> x.keeps(0, law), breach < 0 ? 1 : 0);
        s.answers("breach of " + law + " by " + e, scene, x -> x.breach(0, law), breach < 0 ? NONE : breach);
        s.answers("whatever WRONG is", scene, x -> x.set(0, 8) + x.breach(0, law), breach < 0 ? NONE : breach);
    }

    private static void laws() {
        says("LAWS of RULES: 0 DUE of 0 is never more by a CARE that is SEEN as one more;");
        lawIs("9", 0, -1);
        lawIs("9-a", 0, -1);
        lawIs("9+a", 0, 0);
        lawIs("9+(a=2)", 0, 10);
        lawIs("9+(a=2)*(b=2)", 0, 12);
        lawIs("9+(a=1)*(b=2)", 0, 2);
        lawIs("9+(a=3)", 0, -1);
        lawIs("9+(b=2)", 0, -1);
        lawIs("64+a", 0, -1);
        lawIs("a-9", 0, -1);
        says("1 DUE of 0 is 0 if its CARE, as SEEN, is that of the first BEST or more;");
        lawIs("0", 1, -1);
        lawIs("64*(a<1)", 1, -1);
        lawIs("64*(a<2)", 1, 10);
        lawIs("a=2", 1, 20);
        lawIs("(a=2)*(b=2)", 1, 22);
        lawIs("(a=1)*(b=1)", 1, 11);
        lawIs("a=3", 1, -1);
        lawIs("b=3", 1, -1);
        lawIs("(a=3)+(b=2)*(a=1)", 1, 12);
        says("2 DUES of 0 and of the THIRD together are 64 or less;");
        lawIs("64", 2, -1);
        lawIs("9999", 2, -1);
        s.answers("a COVER of 64", Scenes::town, x -> x.cover(1, 5) * 0 + x.keeps(7, 2), 1);
        says("each for all CARES of 0 that there are, as SEEN ones (whatever WRONG is), and all of 1.");
        s.answers("one CARE: LAW 0 can't be broken", Scenes::pair, x -> Scenes.told(x, "pays a*9") + x.keeps(0, 0), 1);
        s.answers("two CARES", Scenes::pair, x -> Scenes.told(x, "pays a*9") * 0 + x.care(0, 0) * 0 + x.keeps(0, 0), 0);
        s.answers("eight CARES", Scenes::allAlike, x -> Scenes.told(x, "pays a=7") * 0 + x.breach(1, 0), 60);
        s.answers("the last of 1", Scenes::allAlike, x -> Scenes.told(x, "pays b=7") * 0 + x.breach(1, 1), 7);
        says("A BREACH: 10 times the CARE of 0 (of law 0 the lesser) and that of 1; the first by numbers.");
        lawIs("9+(a=1)*(b=2)+2*(a=2)", 0, 2);
        lawIs("(a=1)*(b=2)+(a=2)*(b=0)", 1, 12);
        lawIs("9+(a=2)*(b<2)", 0, 10);
    }

    private static void manyAndSheets() {
        says("MANY 0 to 7 each have a WEIGHT (0 to 99; 0 at first).");
        s.within("one of MANY", Scenes::nothing, (x, v) -> x.many(v, 1), 0, 7);
        s.within("WEIGHT", Scenes::nothing, (x, v) -> x.many(7, v), 0, 99);
        for (int k = 0; k < 8; k++) {
            int one = k;
            s.answers("at first", Scenes::nothing, x -> x.many(one, 99), 0);
            s.answers("then", Scenes::nothing, x -> x.many(one, 99) + x.many(one, 0), 99);
        }
        says("SHEETS 0 to 3 are rows of at most 40 numbers of 8, 16 or 64 bits, or MISSING (at first).");
        s.within("sheet", Scenes::nothing, (x, v) -> x.sheet(v, 8, 1), 0, 3);
        for (int k = 0; k < 4; k++) {
            int sheet = k;
            s.refuses("at first", Scenes::nothing, x -> x.write(sheet, 0, 0), MISSING);
            s.answers("40", Scenes::nothing, x -> x.sheet(sheet, 64, 40) + x.write(sheet, 39, 0), 40);
            s.refuses("41", Scenes::nothing, x -> x.sheet(sheet, 64, 41), BEYOND);
            s.answers("each has its own", Scenes::nothing, x -> {
                for (int t = 0; t < 4; t++) {
                    x.sheet(t, 64, 1);
                    x.write(t, 0, 10 + t);
                }
                return x.write(sheet, 0, 0);
            }, 10 + k);
        }
        for (int bits = -1; bits <= 130; bits++) {
            int asked = bits;
            boolean good = bits == 8 || bits == 16 || bits == 64;
            s.answers("bits " + bits, Scenes::nothing, x -> x.sheet(0, asked, 1), good ? 1 : bits == 0 ? 0 : BEYOND);
        }
    }
}
