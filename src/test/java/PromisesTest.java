import java.nio.charset.StandardCharsets;
import java.util.NoSuchElementException;

/**
 * The document's promises one by one: ordinary inputs, the edges that it names, wrong inputs. The
 * answers that are due were worked out by hand from the document's words.
 */
public final class PromisesTest {
    private static final int MIN = Integer.MIN_VALUE;
    private static final int MAX = Integer.MAX_VALUE;
    private static final int GONE = -77777;

    private static int wrong = 0;
    private static int checks = 0;

    public static void main(String[] args) {
        newObject();
        writing();
        tuning();
        syntaxFaults();
        numberFaults();
        countFaults();
        setting();
        votesAndLimit();
        marking();
        turningAndSwapping();
        enoughParts();
        betterVote();
        codeAndParts();
        chips();
        fulls();
        legsOf();
        hearing();
        noise();
        matching();
        fragileOnes();
        rightOnes();
        joining();
        wrongParts();
        guesses();
        likelyOnes();
        brokenOnes();
        bothLegs();
        odds();
        metresOf();
        longerAndNeeds();
        tracking();
        silentOnes();
        images();
        System.out.println(checks + " checks, " + wrong + " answers are not as due");
        if (wrong != 0) {
            System.exit(1);
        }
    }

    private static void due(int promise, String what, long got, long want) {
        checks++;
        if (got != want) {
            wrong++;
            System.out.println("promise " + promise + ": " + what + " answered " + got + ", due is " + want);
        }
    }

    private static void due(int promise, String what, boolean got, boolean want) {
        due(promise, what, got ? 1 : 0, want ? 1 : 0);
    }

    private static int write(RangeCodes x, String text) {
        byte[] bytes = text.getBytes(StandardCharsets.ISO_8859_1);
        int answer = x.write(0);
        for (int at = 0; at < bytes.length; at += 8) {
            long eight = 0;
            for (int k = at; k < at + 8; k++) {
                eight = eight << 8 | (k < bytes.length ? bytes[k] & 255 : 0);
            }
            answer = x.write(eight);
        }
        return answer;
    }

    private static RangeCodes told(String text) {
        RangeCodes x = new RangeCodes();
        write(x, text);
        if (x.tune() == RangeCodes.NONE) {
            due(3, "the text " + text, x.fault(false), 0);
        }
        return x;
    }

    private static int partOf(RangeCodes x, int part, int what) {
        try {
            return x.part(part, what);
        } catch (NoSuchElementException none) {
            return GONE;
        }
    }

    private static void newObject() {
        RangeCodes x = new RangeCodes();
        due(1, "NONE", RangeCodes.NONE, -1);
        due(1, "parts", x.code(0), 0);
        due(1, "period", x.code(1), 1);
        due(1, "limit", x.code(2), 1000);
        due(1, "votes", x.code(3), 0);
        due(1, "text", x.code(4), 0);
        due(1, "fault", x.fault(false), 0);
        due(1, "fault's place", x.fault(true), -1);
        for (int leg = 0; leg < 2; leg++) {
            int[] first = {0, 0, 0, 40, 0, 0, 0, 0, 0, 40, 0};
            for (int what = 0; what < first.length; what++) {
                due(1, "leg " + leg + " " + what, x.leg(leg, what), first[what]);
            }
            due(1, "distance without parts", x.found(leg, 0), 0);
            due(1, "wrong without parts", x.found(leg, 1), 0);
            due(1, "step without parts", x.found(leg, 2), 1);
            due(1, "guesses without parts", x.found(leg, 3), 1000);
            due(1, "sound without parts", x.found(leg, 4), 1);
            due(1, "sets without parts", x.found(leg, 5), 1);
        }
        due(1, "chip", x.chip(7), 0);
        due(1, "again", x.again(0), false);
    }

    private static void writing() {
        RangeCodes x = new RangeCodes();
        due(2, "no byte", x.write(0), 0);
        due(2, "none behind a 0", x.write(0x0061616161616161L), 0);
        due(2, "up to the first 0", x.write(0x6161006161616161L), 2);
        due(2, "eight", x.write(0x6161616161616161L), 10);
        due(2, "high bytes count", x.write(-1L), 18);
        for (int k = 0; k < 60; k++) {
            x.write(0x6161616161616161L);
        }
        due(2, "498 bytes", x.code(4), 498);
        due(2, "three are too many", x.write(0x6161610000000000L), -1);
        due(2, "and nothing comes", x.code(4), 498);
        due(2, "two are not", x.write(0x6161000000000000L), 500);
        due(2, "none may come behind 500", x.write(0), 500);
        due(2, "one may not", x.write(0x6100000000000000L), -1);
        due(2, "the highest comes first", write(new RangeCodes(), "part xo 1;"), 10);
    }

    private static void tuning() {
        RangeCodes x = new RangeCodes();
        due(3, "an empty text", x.tune(), 0);
        write(x, " \n part xo 2; partxxo 1;");
        due(3, "partxxo is one word", x.tune(), -1);
        due(3, "its text is gone", x.code(4), 0);
        write(x, "part\nxo2;part xxo 1 ;limit7;out delay 3;out drift 5;out shrink 4;out from 9;out many 8;"
            + "out flip 3;out flip 3;out lose 1 2;out slip 4;out skip 5;out noise 6;out seed 77;back delay 1;back delay 2;");
        due(3, "two parts", x.tune(), 2);
        due(3, "no fault", x.fault(false), 0);
        due(3, "text is empty then", x.code(4), 0);
        int[] out = {3, -4, 9, 8, 6, 77, 2, 1, 2, 6};
        for (int what = 0; what < out.length; what++) {
            due(3, "out " + what, x.leg(0, what), out[what]);
        }
        due(3, "a later one strikes", x.leg(1, 0), 2);
        due(3, "limit", x.code(2), 7);
        due(3, "vote", x.part(0, 1), 2);
        write(x, "part xo 1;limit 0;");
        due(3, "a fault", x.tune(), -1);
        due(3, "all stays", x.code(0), 2);
        due(3, "all stays", x.leg(0, 5), 77);
        due(3, "all stays", x.code(2), 7);
        write(x, "out delay 5;");
        due(3, "all is as told, nothing else", x.tune(), 0);
        due(3, "limit is as at first", x.code(2), 1000);
        due(3, "marks are gone", x.clean(0), 0);
        due(3, "drift is as at first", x.leg(0, 1), 0);
        due(3, "many is as at first", x.leg(0, 3), 40);
        due(3, "delay", x.leg(0, 0), 5);
        due(3, "back's delay", x.leg(1, 0), 0);
        write(x, "part xo 0001;");
        due(3, "four digits", x.tune(), 1);
        write(x, "part xoxoxoxoxoxox 9;");
        due(3, "thirteen chips", x.tune(), 1);
        due(3, "thirteen chips", x.part(0, 0), 13);
    }

    private static void fault(String text, int number, int place) {
        RangeCodes x = told("part xxo 4;");
        write(x, text);
        due(4, "tune of " + text, x.tune(), number == 0 ? x.code(0) : -1);
        due(4, "fault of " + text, x.fault(false), number);
        due(4, "place in " + text, x.fault(true), place);
        if (number != 0) {
            due(4, "all stays behind " + text, x.part(0, 1), 4);
        }
    }

    private static void syntaxFaults() {
        fault("part x 1;", 1, 5);
        fault("part xa 1;", 1, 5);
        fault("part part 1;", 1, 5);
        fault("part xxxxxxxxxxxxxx 1;", 1, 5);
        fault("part xo", 1, 7);
        fault("part xo  \n", 1, 10);
        fault("part xo 1", 1, 9);
        fault("part xo ;", 1, 8);
        fault("part xo 1 1;", 1, 10);
        fault("part 1;", 1, 5);
        fault(";", 1, 0);
        fault(" 5", 1, 1);
        fault("xo", 1, 0);
        fault("out", 1, 3);
        fault("out speed 1;", 1, 4);
        fault("out out delay 1;", 1, 4);
        fault("delay 1;", 1, 0);
        fault("limit 12345;", 1, 6);
        fault("limit 1;;", 1, 8);
        fault("out lose 5;", 1, 10);
        fault("out lose 5 6 7;", 1, 13);
        fault("out flip 5 6;", 1, 11);
        fault("limit 1;\t", 1, 8);
        fault("limit 1;\r\n", 1, 8);
        fault("Limit 1;", 1, 0);
        fault("limit -1;", 1, 6);
        fault("limit 1;\u00ff", 1, 8);
        fault("out shift 1;", 1, 4);
        fault("limits 1;", 1, 0);
        fault("limit abc;", 1, 6);
        fault("out delay xo;", 1, 10);
        fault("part 11 1;", 1, 5);
        fault("part xo xo;", 1, 8);
        fault("out 1;", 1, 4);
        fault("part xo 1,", 1, 9);
        fault("limi 1;", 1, 0);
        fault("limit 0;part xo 10;out", 1, 22);
        fault("abcdefghijklmn", 1, 0);
        fault("  \n", 0, -1);
        fault("limit 1;\n", 0, -1);
    }

    private static void numberFaults() {
        fault("part xo 0;", 2, 8);
        fault("part xo 10;", 2, 8);
        fault("limit 0;", 2, 6);
        fault("limit 1;limit 0;limit 2;", 2, 14);
        fault("out drift 65;", 2, 10);
        fault("out drift 64;", 0, -1);
        fault("back shrink 65;", 2, 12);
        fault("back shrink 64;", 0, -1);
        fault("out many 0;", 2, 9);
        fault("out many 201;", 2, 9);
        fault("out flip 200;", 2, 9);
        fault("out flip 199;", 0, -1);
        fault("out slip 200;", 2, 9);
        fault("out skip 200;", 2, 9);
        fault("out lose 9 5;", 2, 11);
        fault("out lose 9 9;", 0, -1);
        fault("out lose 200 9;", 2, 9);
        fault("out lose 0 200;", 2, 11);
        fault("out noise 101;", 2, 10);
        fault("out noise 100;", 0, -1);
        fault("out seed 9999;out from 9999;out delay 9999;limit 9999;", 0, -1);
        fault("out many 0;part xo 0;", 2, 9);
    }

    private static void countFaults() {
        String five = "part xo 1;".repeat(5);
        fault(five, 0, -1);
        fault(five + "part xo 1;", 3, 50);
        fault(five + "part xo 0;", 3, 50);
        fault(five + "part xo 0;" + "part xo 1;", 3, 50);
        fault("limit 0;" + five + "part xo 1;", 2, 6);
        fault(five + "part xo 1", 1, 59);
        String ten = "out flip 1;".repeat(4) + "out slip 1;".repeat(2) + "out skip 1;" + "out lose 1 2;".repeat(3);
        int end = ten.length();
        fault(ten, 0, -1);
        fault(ten + "out flip 1;", 4, end + 4);
        fault(ten + "out  lose 9 1;", 4, end + 5);
        fault(ten + "out slip 300;", 4, end + 4);
        fault(ten + "out skip 1;", 4, end + 4);
        fault(ten + "back flip 1;", 0, -1);
        fault(ten + "out flip 1;" + five + "part xo 1;", 4, end + 4);
        RangeCodes x = told("limit 5;");
        write(x, "limit 0;");
        x.tune();
        due(4, "a fault", x.fault(false), 2);
        write(x, "x");
        due(4, "writing leaves it", x.fault(true), 6);
        x.tune();
        due(4, "the latest one", x.fault(false), 1);
        x.tune();
        due(4, "none at last", x.fault(false), 0);
        due(4, "none at last", x.fault(true), -1);
    }

    private static void setting() {
        int[] least = {0, -64, 0, 1, 0, 0};
        int[] most = {9999, 64, 9999, 200, 100, 9999};
        RangeCodes x = new RangeCodes();
        for (int leg = 0; leg < 2; leg++) {
            for (int what = 0; what < 6; what++) {
                x.set(leg, what, 7);
                due(5, "the same again", x.set(leg, what, 7), false);
                due(5, "least", x.set(leg, what, least[what]), true);
                due(5, "below", x.set(leg, what, least[what] - 1), false);
                due(5, "stays", x.leg(leg, what), least[what]);
                due(5, "most", x.set(leg, what, most[what]), true);
                due(5, "beyond", x.set(leg, what, most[what] + 1), false);
                due(5, "stays", x.leg(leg, what), most[what]);
                due(5, "far", x.set(leg, what, MIN) || x.set(leg, what, MAX), false);
            }
            due(5, "another what", x.set(leg, 6, 1) || x.set(leg, -1, 1), false);
        }
        due(5, "no such leg", x.set(2, 0, 1) || x.set(-1, 0, 1) || x.set(MIN, MIN, MIN), false);
    }

    private static void votesAndLimit() {
        RangeCodes x = told("part xo 1;part xxo 2;");
        due(6, "another", x.vote(0, 9), true);
        due(6, "it has it", x.part(0, 1), 9);
        due(6, "that already", x.vote(0, 9), false);
        due(6, "0", x.vote(0, 0), false);
        due(6, "10", x.vote(1, 10), false);
        due(6, "no such part", x.vote(2, 1) || x.vote(-1, 1), false);
        due(6, "all together", x.code(3), 11);
        due(7, "that already", x.limit(1000), false);
        due(7, "least", x.limit(1), true);
        due(7, "most", x.limit(9999), true);
        due(7, "0", x.limit(0), false);
        due(7, "10000", x.limit(10000), false);
        due(7, "stays", x.code(2), 9999);
    }

    private static void marking() {
        RangeCodes x = told("out lose 3 4;");
        due(8, "first behind a lost one", x.mark(0, 0, 0), 2);
        due(8, "up", x.mark(0, 1, 199), 3);
        due(8, "down", x.mark(0, 2, 5), 4);
        due(8, "200", x.mark(0, 0, 200), -1);
        due(8, "below 0", x.mark(0, 0, -1), -1);
        due(8, "another kind", x.mark(0, 3, 1), -1);
        due(8, "another kind", x.mark(0, -1, 1), -1);
        due(8, "no such leg", x.mark(2, 0, 1), -1);
        due(8, "the other leg", x.mark(1, 1, 1), 1);
        for (int k = 0; k < 6; k++) {
            x.mark(0, 0, k);
        }
        due(8, "ten", x.leg(0, 6) + x.leg(0, 7) + x.leg(0, 8), 10);
        due(8, "an eleventh", x.mark(0, 0, 1), -1);
        due(8, "flips", x.leg(0, 6), 7);
        due(9, "all go", x.clean(0), 10);
        due(9, "none is there", x.clean(0), 0);
        due(9, "the other leg's stay", x.leg(1, 8), 1);
        due(9, "no such leg", x.clean(2), -1);
        due(9, "no such leg", x.clean(-1), -1);
        due(9, "there is room", x.mark(0, 2, 1), 1);
    }

    private static void turningAndSwapping() {
        RangeCodes x = told("part xxooo 2;part xo 3;");
        due(10, "by 2", x.turn(0, 2), true);
        int[] row = {0, 0, 1, 1, 0};
        for (int k = 0; k < 5; k++) {
            due(10, "chip " + k, x.part(0, 10 + k), row[k]);
        }
        due(10, "those at the end come at the beginning", x.turn(0, 4), true);
        int[] next = {0, 1, 1, 0, 0};
        for (int k = 0; k < 5; k++) {
            due(10, "chip " + k, x.part(0, 10 + k), next[k]);
        }
        due(10, "by 0", x.turn(0, 0), false);
        due(10, "by its length", x.turn(0, 5), false);
        due(10, "below 0", x.turn(0, -1), false);
        due(10, "no such part", x.turn(2, 1) || x.turn(-1, 1), false);
        due(11, "swap", x.swap(0, 1), true);
        due(11, "length", x.part(0, 0), 2);
        due(11, "vote", x.part(0, 1), 3);
        due(11, "other's row", x.part(1, 11), 1);
        due(11, "other's vote", x.part(1, 1), 2);
        due(11, "the same one", x.swap(1, 1), false);
        due(11, "no such", x.swap(0, 2) || x.swap(2, 0) || x.swap(-1, 0) || x.swap(2, 3), false);
    }

    private static void enoughParts() {
        RangeCodes x = told("part xo 1;part xxo 1;part xooo 1;part xxooo 1;limit 12;");
        due(12, "3 and 4", x.enough(0), 6);
        due(12, "two besides", x.enough(1), 2);
        x.limit(13);
        due(12, "3 and 5 are least", x.enough(0), 10);
        x.limit(60);
        due(12, "three of them", x.enough(0), 14);
        due(12, "one besides", x.enough(1), 1);
        x.limit(61);
        due(12, "none", x.enough(0), -1);
        due(12, "none", x.enough(1), -1);
        x.limit(5);
        due(12, "one alone", x.enough(0), 8);
        x.limit(1);
        due(12, "no part is needed", x.enough(0), 0);
        due(12, "all are besides", x.enough(1), 4);
        due(12, "another what", x.enough(2), -1);
        due(12, "another what", x.enough(-1), -1);
        RangeCodes none = new RangeCodes();
        due(12, "without parts", none.enough(0), -1);
        none.limit(1);
        due(12, "without parts, limit 1", none.enough(0), 0);
    }

    private static void betterVote() {
        // xo and xxo: period 6. A vote of 0 above the other's makes the code xo itself (or, alike,
        // by part 0): full of 0 is 6, of 1 is 0 (3 x t: x of xxo alike 2 of 3, o's alike 1 of 3).
        RangeCodes x = told("part xo 1;part xxo 1;");
        due(13, "part 0 wins always", x.better(0, false), 1);
        due(13, "least full", x.better(0, true), 0);
        // with VOTE 2 the code is xxo: full of 1 is 6, of 0 it is xoxoxo against xxoxxo: 3 like, 3 not
        due(13, "part 1", x.better(1, false), 1);
        due(13, "part 1's least", x.better(1, true), 0);
        due(13, "no such part", x.better(2, false), -1000000);
        due(13, "no such part", x.better(-1, true), -1000000);
        due(13, "a question changes nothing", x.part(1, 1), 1);
        // three coprime parts of one vote each share the code, a great vote takes it all
        RangeCodes y = told("part xo 9;part xxo 1;part xooxx 1;");
        int least = y.better(0, true);
        int vote = y.better(0, false);
        y.vote(0, vote);
        int min = Math.min(y.full(0, 0), Math.min(y.full(1, 0), y.full(2, 0)));
        due(13, "that full is reached", min, least);
        due(13, "by vote 1", vote, 1);
        // only the greatest vote is like that of xxx
        RangeCodes z = told("part ox 4;part oxoox 4;part oxx 4;part xxx 9;");
        int greatest = MIN;
        for (int number = 1; number <= 9; number++) {
            z.vote(0, number);
            int own = Math.min(Math.min(z.full(0, 0), z.full(1, 0)), Math.min(z.full(2, 0), z.full(3, 0)));
            due(13, "only 9 is best", own > greatest || number < 9, true);
            greatest = Math.max(greatest, own);
        }
        due(13, "9", z.better(0, false), 9);
        due(13, "its least full", z.better(0, true), greatest);
    }

    private static void codeAndParts() {
        RangeCodes x = told("part xxo 4;part xoxoo 1;part xo 9;limit 30;");
        due(14, "parts", x.code(0), 3);
        due(14, "period", x.code(1), 30);
        due(14, "limit", x.code(2), 30);
        due(14, "votes", x.code(3), 14);
        write(x, "part");
        due(14, "bytes", x.code(4), 4);
        due(14, "another", x.code(5), -1);
        due(14, "another", x.code(-1), -1);
        due(14, "a long period", told("part xxxxxxx 1;part xooooooooo 1;part xoooooooo 1;part xoooooooooo 1;"
            + "part xoooooooooooo 1;").code(1), 90090);
        due(14, "shared factors", told("part xooo 1;part xooooo 1;").code(1), 12);
        due(15, "length", partOf(x, 1, 0), 5);
        due(15, "vote", partOf(x, 2, 1), 9);
        due(15, "how many yes", partOf(x, 0, 2), 2);
        due(15, "chip 0", partOf(x, 1, 10), 1);
        due(15, "chip 1", partOf(x, 1, 11), 0);
        due(15, "chip 4", partOf(x, 1, 14), 0);
        due(15, "no chip 5", partOf(x, 1, 15), GONE);
        due(15, "no chip 2", partOf(x, 2, 12), GONE);
        due(15, "another what", partOf(x, 0, 3), GONE);
        due(15, "another what", partOf(x, 0, 9), GONE);
        due(15, "another what", partOf(x, 0, -1), GONE);
        due(15, "another what", partOf(x, 0, MIN), GONE);
        due(15, "another what", partOf(x, 0, MAX), GONE);
        due(15, "no such part", partOf(x, 3, 0), GONE);
        due(15, "no such part", partOf(x, -1, 0), GONE);
        due(15, "without parts", partOf(new RangeCodes(), 0, 0), GONE);
    }

    private static void chips() {
        RangeCodes x = told("part xxo 1;part xoxoo 1;part xo 1;");
        int[] first = {1, 0, 1, 0, 1, 0, 1};
        for (int t = 0; t < first.length; t++) {
            due(16, "chip " + t, x.chip(t), first[t]);
        }
        due(16, "below 0: -1 is 29", x.chip(-1), x.chip(29));
        due(16, "chip 29: o, o, o", x.chip(-1), 0);
        due(16, "chip -2: x, o, x", x.chip(-2), 1);
        due(16, "the least int, 22 by 30: x, x, x", x.chip(MIN), 1);
        due(16, "the greatest int, 7 by 30: x, x, o", x.chip(MAX), 1);
        RangeCodes tie = told("part xo 2;part ox 2;");
        due(16, "a tie is part 0's", tie.chip(0), 1);
        due(16, "a tie is part 0's", tie.chip(1), 0);
        tie.swap(0, 1);
        due(16, "a tie is part 0's", tie.chip(0), 0);
        tie.vote(1, 3);
        due(16, "votes are more", tie.chip(0), 1);
    }

    private static void fulls() {
        RangeCodes x = told("part xxo 1;part xoxoo 1;part xo 1;");
        // x where two of three are, of t 0 to 29; each part is like the code more often than not
        int[] lengths = {3, 5, 2};
        String[] rows = {"xxo", "xoxoo", "xo"};
        for (int p = 0; p < 3; p++) {
            for (int place = 0; place < lengths[p]; place++) {
                int full = 0;
                for (int t = 0; t < 30; t++) {
                    boolean yes = rows[p].charAt(Math.floorMod(t - place, lengths[p])) == 'x';
                    full += yes == (x.chip(t) == 1) ? 1 : -1;
                }
                due(17, "full " + p + " " + place, x.full(p, place), full);
            }
            due(17, "no such place", x.full(p, lengths[p]), -1000000);
            due(17, "no such place", x.full(p, -1), -1000000);
        }
        due(17, "alone", told("part xo 1;").full(0, 0), 2);
        due(17, "alone, elsewhere", told("part xo 1;").full(0, 1), -2);
        due(17, "no such part", x.full(3, 0), -1000000);
        due(17, "no such part", new RangeCodes().full(0, 0), -1000000);
        due(17, "a long period", told("part xxxxxxx 1;part xooooooooo 9;part xoooooooo 1;part xoooooooooo 1;"
            + "part xoooooooooooo 1;").full(1, 0), 90090);
    }

    private static void legsOf() {
        RangeCodes x = told("part xo 1;out many 10;out lose 2 4;out lose 4 5;out flip 0;out flip 0;out flip 7;out slip 9;"
            + "out skip 30;out noise 0;");
        int[] want = {0, 0, 0, 10, 0, 0, 3, 2, 2, 6, 4};
        // heard 0,1,6,7,8,9: x o x (o turned to x) x, at 9 one behind: x at 8: x; together x 0,6,7,8,9
        want[10] = 5;
        for (int what = 0; what < want.length; what++) {
            due(18, "leg " + what, x.leg(0, what), want[what]);
        }
        due(18, "another what", x.leg(0, 11), -1000);
        due(18, "another what", x.leg(0, -1), -1000);
        due(18, "no such leg", x.leg(2, 0), -1000);
        due(18, "no such leg", x.leg(-1, 0), -1000);
    }

    private static void hearing() {
        RangeCodes x = told("part xxo 1;out delay 1;out many 8;out flip 2;out flip 3;out flip 3;out lose 5 6;out slip 4;");
        // t less behind: -1 0 1 2, then from i 4 on 2 3 4 5
        int[] heard = {0, 1, 0, 0, 0, 2, 2, 0};
        int[] behind = {1, 1, 1, 1, 2, 2, 2, 2};
        for (int i = 0; i < 8; i++) {
            due(19, "heard " + i, x.heard(0, i), heard[i]);
            due(20, "behind " + i, x.behind(0, i), behind[i]);
        }
        due(19, "no such i", x.heard(0, 8), -1);
        due(19, "no such i", x.heard(0, -1), -1);
        due(19, "no such leg", x.heard(2, 0), -1);
        due(20, "no such i", x.behind(0, 8), MIN);
        due(20, "no such i", x.behind(0, -1), MIN);
        due(20, "no such leg", x.behind(-1, 0), MIN);
        // the station heard a distance and sends that much late; back's own delay comes on top
        RangeCodes y = told("part xxo 1;out delay 2;back delay 1;back many 3;");
        due(26, "out's distance", y.found(0, 0), 2);
        due(19, "back hears the code 3 late", y.heard(1, 0) * 4 + y.heard(1, 1) * 2 + y.heard(1, 2), 6);
        due(26, "back's distance is both together", y.found(1, 0), 0);
        // no distance of out: the chip of the code at 0, whatever the number is
        y.limit(2);
        due(26, "there is no distance", y.found(0, 0), -1);
        for (int i = 0; i < 3; i++) {
            due(19, "the chip at 0", y.heard(1, i), 1);
        }
        y.turn(0, 1);
        for (int i = 0; i < 3; i++) {
            due(19, "the chip at 0, now no", y.heard(1, i), 0);
        }
        RangeCodes z = told("part xo 1;out from 100;out drift 64;out delay 5;out skip 0;out many 4;");
        int[] drifted = {29, 29, 29, 29};
        for (int i = 0; i < 4; i++) {
            due(20, "drift " + i, z.behind(0, i), drifted[i]);
        }
        z.set(0, 1, -64);
        int[] shrunk = {-21, -22, -22, -22};
        for (int i = 0; i < 4; i++) {
            due(20, "shrink, rounded down " + i, z.behind(0, i), shrunk[i]);
        }
        due(20, "back has no drift", z.behind(1, 3), 0);
    }

    private static void noise() {
        RangeCodes x = told("part xx 1;out many 200;out noise 30;out seed 1234;");
        long draws = 1234;
        for (int i = 0; i < 200; i++) {
            draws = (draws * 1103515245L + 12345) % 2147483648L;
            due(19, "noise at " + i, x.heard(0, i), draws / 65536 % 100 < 30 ? 0 : 1);
        }
        int second = x.heard(0, 1);
        x.mark(0, 0, 1);
        due(19, "a flip on top", x.heard(0, 1), 1 - second);
        x.set(0, 4, 100);
        due(19, "all are turned over", x.leg(0, 10), 1);
        x.set(0, 4, 0);
        due(19, "none is", x.leg(0, 10), 199);
        // a draw is made at a lost one, too
        RangeCodes y = told("part xx 1;out many 200;out noise 30;out seed 1234;out lose 0 9;");
        x.set(0, 4, 30);
        due(19, "lost", y.heard(0, 9), 2);
        for (int i = 10; i < 200; i++) {
            due(19, "behind lost ones " + i, y.heard(0, i), x.heard(0, i));
        }
    }

    private static void matching() {
        RangeCodes x = told("part xxo 1;out delay 1;out many 6;");
        due(21, "place 0", x.match(0, 0, 0), -2);
        due(21, "place 1", x.match(0, 0, 1), 6);
        due(21, "place 2", x.match(0, 0, 2), -2);
        due(21, "no such place", x.match(0, 0, 3), -1000);
        due(21, "no such place", x.match(0, 0, -1), -1000);
        due(21, "no such part", x.match(0, 1, 0), -1000);
        due(21, "no such leg", x.match(2, 0, 0), -1000);
        due(22, "best", x.best(0, 0, 0), 1);
        due(22, "its match", x.best(0, 0, 1), 6);
        due(22, "edge", x.best(0, 0, 2), 8);
        due(22, "how many have it", x.best(0, 0, 3), 1);
        due(22, "another what", x.best(0, 0, 4), -1000);
        due(22, "another what", x.best(0, 0, -1), -1000);
        due(22, "no such part", x.best(0, 1, 0), -1000);
        due(22, "no such leg", x.best(-1, 0, 0), -1000);
        x.set(0, 3, 1);
        // o alone is heard: only place 1 has o at t 0
        due(22, "one chip", x.best(0, 0, 0), 1);
        x.set(0, 0, 0);
        due(22, "x alone: places 0 and 2", x.best(0, 0, 3), 2);
        due(22, "the least of them", x.best(0, 0, 0), 0);
        due(22, "no edge", x.best(0, 0, 2), 0);
        RangeCodes lost = told("part xxo 1;out many 6;out lose 0 199;");
        due(21, "nothing is heard", lost.match(0, 0, 1), 0);
        due(22, "all are alike", lost.best(0, 0, 3), 3);
        due(21, "from counts", told("part xxo 1;out from 1;out many 2;").match(0, 0, 0), 2);
    }

    private static void fragileOnes() {
        // matches 6, -2 and -2: 8 less; a greater place must be ahead (3 turns), a lesser one may be
        // alike (2 turns)
        due(23, "best 0", told("part xxo 1;out many 6;").fragile(0, 0), 3);
        due(23, "best 1", told("part xxo 1;out many 6;out delay 1;").fragile(0, 0), 2);
        due(23, "alike already", told("part xxo 1;out many 1;").fragile(0, 0), 1);
        due(23, "all places are the same", told("part xxx 1;").fragile(0, 0), -1);
        due(23, "nothing is heard", told("part xxo 1;out lose 0 99;").fragile(0, 0), -1);
        RangeCodes x = told("part xo 1;");
        due(23, "no such part", x.fragile(0, 1), -1000);
        due(23, "no such leg", x.fragile(2, 0), -1000);
        due(23, "two places, 40 chips", x.fragile(0, 0), 21);
    }

    private static void rightOnes() {
        RangeCodes x = told("part xxo 1;part xxoxo 1;part xo 1;out delay 7;out many 60;back delay 4;back many 60;");
        due(24, "all", x.right(0), 7);
        due(24, "all of back", x.right(1), 7);
        // at i 0 it is 8, at all others 7 (by a jump each way): the parts find 7
        x.mark(0, 1, 0);
        x.mark(0, 2, 1);
        due(24, "behind at i 0 alone counts", x.right(0), 0);
        due(24, "no such leg", x.right(2), -1);
        due(24, "no such leg", x.right(-1), -1);
        due(24, "without parts", new RangeCodes().right(0), 0);
        RangeCodes y = told("part xxo 1;out noise 100;");
        // all turned over: matches of 40 chips turn sign, the greatest is not place 0
        due(24, "not right", y.right(0), 0);
        RangeCodes below = told("part xxo 1;out skip 0;");
        due(24, "below 0", below.behind(0, 0), -1);
        due(24, "its remainder is 2", below.right(0), 1);
        // limit 1: no distance of out (its best is 1), back hears x alone, best 0, behind is 0
        RangeCodes none = told("part xxo 1;out delay 1;limit 1;");
        due(24, "of back without a distance of out", none.right(1), 1);
    }

    private static void joining() {
        RangeCodes x = told("part xxo 1;part xxoxo 1;part xo 1;limit 30;out delay 7;out many 60;");
        due(25, "no part", x.joined(0, 0), 0);
        due(25, "3 alone", x.joined(0, 1), 1);
        due(25, "5 alone", x.joined(0, 2), 2);
        due(25, "2 alone", x.joined(0, 4), 1);
        due(25, "3 and 5", x.joined(0, 3), 7);
        due(25, "all", x.joined(0, 7), 7);
        due(25, "no such parts", x.joined(0, 8), -2);
        due(25, "no such parts", x.joined(0, -1), -2);
        due(25, "no such leg", x.joined(2, 0), -2);
        due(26, "distance", x.found(0, 0), 7);
        due(26, "wrong", x.found(0, 1), 0);
        due(26, "step", x.found(0, 2), 30);
        due(26, "guesses", x.found(0, 3), 1);
        due(26, "sound", x.found(0, 4), 1);
        due(26, "sets", x.found(0, 5), 1);
        due(26, "another what", x.found(0, 6), -1);
        due(26, "another what", x.found(0, -1), -1);
        due(26, "no such leg", x.found(2, 3), -1);
        // best 0 of xo, best 1 of xxoo: no number is both
        RangeCodes y = told("part xo 1;part xxoo 9;out delay 1;out many 8;");
        due(22, "best of xo", y.best(0, 0, 0), 0);
        due(22, "best of xxoo", y.best(0, 1, 0), 1);
        due(25, "they are not", y.joined(0, 3), -1);
        due(26, "the least as bits is wrong", y.found(0, 1), 1);
        due(26, "two sets", y.found(0, 5), 2);
        due(26, "not sound", y.found(0, 4), 0);
        due(26, "distance of the other", y.found(0, 0), 1);
        due(26, "step of the other", y.found(0, 2), 4);
        due(26, "guesses", y.found(0, 3), 250);
    }

    private static void wrongParts() {
        // 3, 5 and 2 at 7, but limit 7: 3 and 2 alone (1), 5 and 2 (7) and 3 and 5 (7) are too far
        RangeCodes x = told("part xxo 1;part xxoxo 1;part xo 1;limit 7;out delay 7;out many 60;");
        due(26, "distance", x.found(0, 0), 1);
        due(26, "wrong", x.found(0, 1), 2);
        due(26, "step", x.found(0, 2), 6);
        due(26, "one guess: 7 is not below 7", x.found(0, 3), 1);
        due(26, "not sound", x.found(0, 4), 0);
        due(26, "one set", x.found(0, 5), 1);
        x.limit(8);
        due(26, "sound by one more", x.found(0, 4), 1);
        x.limit(2);
        due(26, "3 and 2 are still below", x.found(0, 0), 1);
        x.limit(1);
        int[] none = {-1, -1, -1, 0, 0, 0};
        for (int what = 0; what < none.length; what++) {
            due(26, "no distance " + what, x.found(0, what), none[what]);
        }
        // never all of them, but all but one
        RangeCodes y = told("part xxo 1;part xxoxo 1;part xxxooxo 1;limit 2;out delay 8;out many 105;");
        due(22, "best of 3", y.best(0, 0, 0), 2);
        due(22, "best of 5", y.best(0, 1, 0), 3);
        due(22, "best of 7", y.best(0, 2, 0), 1);
        due(26, "3 and 5 are wrong", y.found(0, 1), 3);
        due(26, "7 is left", y.found(0, 0), 1);
        due(26, "its step", y.found(0, 2), 7);
        due(26, "no other two", y.found(0, 5), 1);
        y.limit(3);
        due(26, "5 and 3, or 5 and 7", y.found(0, 5), 2);
        due(26, "the least as bits is left out", y.found(0, 0), 1);
        y.limit(1);
        due(26, "none alone", y.found(0, 0), -1);
    }

    private static void guesses() {
        RangeCodes x = told("part xxo 1;part xo 1;limit 20;out delay 4;out many 60;");
        int[] guesses = {4, 10, 16};
        for (int k = 0; k < 3; k++) {
            due(27, "guess " + k, x.guess(0, k), guesses[k]);
        }
        due(26, "three", x.found(0, 3), 3);
        due(27, "not so many", x.guess(0, 3), -1);
        due(27, "far", x.guess(0, MAX), -1);
        due(27, "below 0", x.guess(0, -1), -1);
        due(27, "no such leg", x.guess(2, 0), -1);
        x.limit(16);
        due(27, "16 is not below 16", x.guess(0, 2), -1);
        RangeCodes none = told("part xxo 1;out delay 1;limit 1;");
        due(27, "no distance", none.guess(0, 0), -1);
        due(27, "without parts", new RangeCodes().guess(0, 999), 999);
        due(27, "without parts", new RangeCodes().guess(0, 1000), -1);
    }

    private static void likelyOnes() {
        RangeCodes x = told("part xxo 2;limit 5;out delay 1;out many 6;");
        // scores: 6 times 2 at 1 and 4, -2 times 2 at 0, 2, 3
        int[] numbers = {1, 4, 0, 2, 3};
        int[] scores = {12, 12, -4, -4, -4};
        for (int k = 0; k < 5; k++) {
            due(28, "likely " + k, x.likely(0, k, false), numbers[k]);
            due(28, "score " + k, x.likely(0, k, true), scores[k]);
            due(29, "rank of " + numbers[k], x.rank(0, numbers[k]), k);
        }
        due(28, "not so many", x.likely(0, 5, false), -1000000);
        due(28, "below 0", x.likely(0, -1, true), -1000000);
        due(28, "no such leg", x.likely(2, 0, false), -1000000);
        due(29, "not below limit", x.rank(0, 5), -1);
        due(29, "below 0", x.rank(0, -1), -1);
        due(29, "no such leg", x.rank(2, 0), -1);
        x.limit(9999);
        due(28, "the 20th", x.likely(0, 19, false), 58);
        due(28, "another k", x.likely(0, 20, false), -1000000);
        due(29, "the last one", x.rank(0, 9998), 9998);
        due(29, "the first that is not", x.rank(0, 0), 3333);
        due(28, "without parts", new RangeCodes().likely(0, 19, false), 19);
        due(28, "without parts", new RangeCodes().likely(0, 19, true), 0);
        due(29, "without parts", new RangeCodes().rank(1, 999), 999);
    }

    private static void brokenOnes() {
        RangeCodes x = told("part xxxoo 1;out many 40;out slip 20;");
        // 0 ahead of i 20, 1 from it on; i 19 is o in both places, so 19 is the least that does
        due(30, "both matches", x.broken(0, 0, 3), 40);
        due(30, "place ahead", x.broken(0, 0, 1), 0);
        due(30, "place behind", x.broken(0, 0, 2), 1);
        due(30, "i", x.broken(0, 0, 0), 19);
        due(30, "more than best", x.broken(0, 0, 4), 40 - x.best(0, 0, 1));
        due(30, "another what", x.broken(0, 0, 5), -1000);
        due(30, "another what", x.broken(0, 0, -1), -1000);
        due(30, "no such part", x.broken(0, 1, 0), -1000);
        due(30, "no such leg", x.broken(2, 0, 0), -1000);
        x.set(0, 3, 1);
        due(30, "many is 1", x.broken(0, 0, 0), -1000);
        RangeCodes lost = told("part xo 1;out lose 0 99;");
        int[] least = {1, 0, 1, 0, 0};
        for (int what = 0; what < 5; what++) {
            due(30, "of alike ones the least " + what, lost.broken(0, 0, what), least[what]);
        }
        // it is not broken: one of two places must be the other one, so two less than best
        RangeCodes whole = told("part xo 1;out many 10;");
        due(30, "less than best", whole.broken(0, 0, 4), -2);
        due(30, "at 1: the other place ahead", whole.broken(0, 0, 1), 1);
        due(30, "at 1", whole.broken(0, 0, 0), 1);
    }

    private static void bothLegs() {
        RangeCodes x = told("part xxo 1;part xxoxo 1;part xo 1;limit 30;out delay 7;out many 60;back delay 4;back many 60;");
        due(31, "back's less out's", x.both(0), 4);
        due(31, "both behind", x.both(1), 11);
        due(31, "nothing is left", x.both(2), 0);
        due(31, "another what", x.both(3), -1000000);
        due(31, "another what", x.both(-1), -1000000);
        x.limit(11);
        due(31, "11 is not below 11", x.both(2) != 0, true);
        RangeCodes none = told("part xxo 1;out delay 1;back delay 5;limit 1;");
        due(31, "no distance of out", none.both(0), -1000000);
        due(31, "no distance of out", none.both(2), -1000000);
        due(31, "behind is there", none.both(1), 6);
    }

    private static void odds() {
        RangeCodes x = new RangeCodes();
        due(32, "half", x.chance(1, 5, 1, false), 1);
        due(32, "half", x.chance(1, 5, 1, true), 2);
        due(32, "none at all", x.chance(0, 0, 0, false), 1);
        due(32, "none at all", x.chance(0, 0, 0, true), 1);
        due(32, "0 has 1 under it", x.chance(3, 5, 4, false), 0);
        due(32, "0 has 1 under it", x.chance(3, 5, 4, true), 1);
        due(32, "2 of 3 by 3 of ten: 216 of 1000", x.chance(3, 3, 2, false), 27);
        due(32, "2 of 3 by 3 of ten: 216 of 1000", x.chance(3, 3, 2, true), 125);
        due(32, "surely", x.chance(18, 10, 18, false), 1);
        due(32, "never", x.chance(18, 0, 1, false), 0);
        due(32, "all 18 by 3 of ten", x.chance(18, 3, 18, false), 387420489L);
        due(32, "all 18 by 3 of ten", x.chance(18, 3, 18, true), 1000000000000000000L);
        due(32, "1 of 18 by 1 of ten", x.chance(18, 1, 1, false), 1000000000000000000L - 150094635296999121L);
        int[][] others = {{-1, 5, 0}, {19, 5, 0}, {1, -1, 0}, {1, 11, 0}, {1, 5, -1}, {1, 5, 19}, {MIN, MIN, MIN}};
        for (int[] other : others) {
            due(32, "other numbers", x.chance(other[0], other[1], other[2], false), -1);
            due(32, "other numbers", x.chance(other[0], other[1], other[2], true), -1);
        }
        due(33, "10 by 50 of a thousand: 9", x.bar(10, 50), 9);
        due(33, "10 by 54: 56 of 1024 is 54.7", x.bar(10, 54), 9);
        due(33, "10 by 55", x.bar(10, 55), 8);
        due(33, "1 by half: just so", x.bar(1, 500), 1);
        due(33, "1 by less", x.bar(1, 499), 2);
        due(33, "surely", x.bar(18, 1000), 0);
        due(33, "never", x.bar(18, 0), 19);
        due(33, "just below", x.bar(18, 999), 4);
        int[][] barred = {{0, 1}, {19, 1}, {1, -1}, {1, 1001}, {MIN, 1}, {1, MAX}};
        for (int[] other : barred) {
            due(33, "other numbers", x.bar(other[0], other[1]), -1);
        }
    }

    private static void metresOf() {
        RangeCodes x = told("part xxo 1;part xxoxo 1;part xo 1;limit 30;out delay 7;out many 60;");
        due(34, "seven times", x.metres(0, 150), 1050);
        due(34, "below 0", x.metres(0, -3), -21);
        long most = Long.MAX_VALUE / 7;
        due(34, "most", x.metres(0, most), most * 7);
        due(34, "one more", x.metres(0, most + 1), Long.MIN_VALUE);
        long least = Long.MIN_VALUE / 7;
        due(34, "least", x.metres(0, least), least * 7);
        due(34, "one less", x.metres(0, least - 1), Long.MIN_VALUE);
        due(34, "far", x.metres(0, Long.MIN_VALUE), Long.MIN_VALUE);
        due(34, "no such leg", x.metres(2, 1), Long.MIN_VALUE);
        due(34, "0 times", new RangeCodes().metres(0, Long.MIN_VALUE), 0);
        due(34, "none", told("part xxo 1;out delay 1;limit 1;").metres(0, 1), Long.MIN_VALUE);
        due(34, "1 time", told("part xxo 1;out delay 1;").metres(0, Long.MAX_VALUE), Long.MAX_VALUE);
    }

    private static void longerAndNeeds() {
        RangeCodes x = told("part xxo 1;limit 3;out delay 1;out many 1;back many 1;");
        // heard of out: o x x o ..: place 1 from the first chip on
        due(35, "one", x.longer(0, 1, 0), 1);
        due(35, "200", x.longer(0, 200, 0), 1);
        due(35, "no n", x.longer(0, 0, 0), -1);
        due(35, "no n", x.longer(0, 201, 3), -1);
        due(35, "another what", x.longer(0, 5, 6), -1);
        due(35, "no such leg", x.longer(2, 5, 0), -1);
        due(35, "it stays", x.leg(0, 3), 1);
        x.set(0, 0, 2);
        // heard: x o x: x may be place 0 or 2, o then tells
        due(35, "too short", x.longer(0, 1, 0), 0);
        due(35, "one more", x.longer(0, 2, 0), 2);
        due(35, "step", x.longer(0, 2, 2), 3);
        due(36, "two are needed", x.needs(0, 2), 2);
        due(36, "one is", x.needs(0, 0), 1);
        due(36, "never", x.needs(0, 1), -1);
        due(36, "another number", x.needs(0, -1), -1);
        due(36, "another number", x.needs(0, 10000), -1);
        due(36, "no such leg", x.needs(2, 0), -1);
        RangeCodes far = told("part xxo 1;part xxoxo 1;part xo 1;limit 8;out delay 7;");
        due(36, "7 is below 8", far.needs(0, 7) > 0, true);
        far.limit(7);
        due(36, "7 is not below 7", far.needs(0, 7), -1);
        RangeCodes late = told("part xxo 1;out delay 2;out many 3;out lose 0 198;");
        due(36, "the last one alone tells", late.needs(0, 2), 200);
        due(36, "without parts", new RangeCodes().needs(1, 0), 1);
        due(36, "without parts", new RangeCodes().needs(1, 1), -1);
        // out says 0 (one chip); back is sent by that and late by its own delay
        x.set(1, 0, 2);
        due(36, "of back", x.needs(1, 2), 2);
        due(35, "of back", x.longer(1, 2, 0), 2);
        // xo is in place 0 all the time, xxoo in place 3 from the second chip on: one is wrong
        RangeCodes y = told("part xo 1;part xxoo 9;out delay 3;");
        due(26, "one is wrong", y.found(0, 1), 1);
        due(26, "the other one tells", y.found(0, 0), 3);
        due(36, "nothing may be wrong", y.needs(0, 3), -1);
        due(36, "one chip alone fits 0", y.needs(0, 0), 1);
    }

    private static void tracking() {
        RangeCodes x = told("part xxo 1;part xxoxo 1;part xo 1;limit 30;out delay 3;out drift 1;out many 60;");
        due(37, "from 0", x.track(0, 200, 0), 3);
        due(37, "behind is 4 at t 256 to 315", x.track(0, 128, 2), 4);
        due(37, "5", x.track(0, 128, 4), 5);
        due(37, "20 times 192: 3840 is 15 times 256", x.track(0, 192, 20), 18);
        due(37, "it stays", x.leg(0, 2), 0);
        x.set(0, 2, 9999);
        // t 13999 to 14058 by 256, rounded down, is 54; and 3, less 30
        due(37, "beyond 9999", x.track(0, 200, 20), 27);
        int[][] others = {{0, 0, 0}, {0, 201, 0}, {0, 1, -1}, {0, 1, 21}, {2, 1, 0}, {-1, 1, 0}, {0, -1, 0}};
        for (int[] other : others) {
            due(37, "other numbers", x.track(other[0], other[1], other[2]), -2);
        }
        due(37, "none", told("part xxo 1;out delay 1;limit 1;").track(0, 3, 1), -1);
    }

    private static void silentOnes() {
        RangeCodes x = told("part xo 1;part xxo 1;out many 12;");
        // without 0's vote the code is xxo: xo is like and unlike it alike often
        due(38, "part 0 silent", x.silent(0, 0), 0);
        // without 1's vote it is xo (as it was by part 0's lead): xxo against xoxoxo, all places 0
        due(38, "part 1 silent", x.silent(0, 1), 0);
        due(38, "it stays", x.code(3), 2);
        RangeCodes alone = told("part xo 3;out many 12;");
        due(38, "alone it is part 0's all the same", alone.silent(0, 0), 12);
        due(38, "back, too", told("part xo 3;back many 12;").silent(1, 0), 12);
        due(38, "no such part", x.silent(0, 2), -1000);
        due(38, "no such leg", x.silent(2, 0), -1000);
        // 9 votes for xxo, none: then xxxoo, and out's distance is told by another row
        RangeCodes two = told("part xxo 9;part xxxoo 1;out delay 1;out many 30;");
        due(38, "xxo against xxxoo", two.silent(0, 0), 2);
    }

    private static void images() {
        RangeCodes x = told("part xxo 2;part xo 3;limit 7;out delay 4;out flip 3;");
        due(40, "none kept", x.again(1), false);
        write(x, "limit");
        due(39, "keep", x.image(1), true);
        due(39, "another k", x.image(3) || x.image(-1) || x.image(MAX), false);
        due(40, "another k", x.again(3) || x.again(-1) || x.again(MIN), false);
        due(40, "none kept as 0", x.again(0), false);
        write(x, "ed");
        x.tune();
        due(40, "a fault since", x.fault(false), 1);
        x.vote(0, 9);
        x.limit(8);
        x.swap(0, 1);
        x.set(0, 0, 5);
        x.clean(0);
        due(39, "keep another", x.image(0), true);
        due(40, "again", x.again(1), true);
        due(40, "text", x.code(4), 5);
        due(40, "fault", x.fault(false), 0);
        due(40, "place", x.fault(true), -1);
        due(40, "limit", x.code(2), 7);
        due(40, "vote", x.part(0, 1), 2);
        due(40, "length", x.part(0, 0), 3);
        due(40, "delay", x.leg(0, 0), 4);
        due(40, "flips", x.leg(0, 6), 1);
        write(x, " 3;");
        due(40, "its text is that which was kept", x.tune(), 0);
        due(40, "its text is that which was kept", x.code(2), 3);
        due(40, "once more, as it was kept", x.again(1), true);
        due(40, "once more", x.code(0), 2);
        due(40, "the other one", x.again(0), true);
        due(40, "the other one's fault", x.fault(false), 1);
        due(40, "the other one's place", x.fault(true), 0);
        due(40, "the other one's vote", x.part(1, 1), 9);
        due(39, "kept over", x.image(1), true);
        x.limit(100);
        due(40, "kept over", x.again(1), true);
        due(40, "kept over", x.code(2), 8);
    }
}
