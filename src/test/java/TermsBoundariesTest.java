import java.math.BigInteger;

/**
 * The document's "Terms": for each sentence (or part of one) that names a boundary case a test of
 * its own, named by its words (here and there shortened). Answers were worked out by hand from them.
 */
public final class TermsBoundariesTest {
    private static final Sentences S = new Sentences();

    private static final String[] NUMBER_WORDS = {"delay", "drift", "from", "many", "noise", "seed"};
    private static final int[] LEAST = {0, -64, 0, 1, 0, 0};
    private static final int[] MOST = {9999, 64, 9999, 200, 100, 9999};
    private static final int[] FIRST = {0, 0, 0, 40, 0, 0};
    private static final String[] MARKS = {"flip 1;", "lose 1 2;", "slip 1;", "skip 1;"};

    private static final String[] ALL_FORMS = {"part xo 1 ;", "limit 5 ;", "out delay 1 ;", "out drift 1 ;",
        "back shrink 1 ;", "out from 1 ;", "back many 1 ;", "out flip 1 ;", "back lose 1 2 ;", "out slip 1 ;",
        "back skip 1 ;", "out noise 1 ;", "back seed 1 ;"};

    /** 3, 5 and 2 chips: 30 together; with 60 heard all parts find their places. */
    private static final String THREE = "part xxo 1;part xxoxo 1;part xo 1;out many 60;back many 60;";

    public static void main(String[] args) {
        code();
        chips();
        legs();
        tokens();
        texts();
        faultOne();
        faultsByPlace();
        faultTwo();
        faultsOfCounts();
        behindAndSent();
        turnedOver();
        lost();
        matches();
        joinedOnes();
        wrongOnes();
        guessesAndScores();
        brokenOnes();
        oddsInWholeNumbers();
        station();
        S.end();
    }

    private static RangeCodes told(String text) {
        return Sentences.told(text);
    }

    // ---- 1: the code

    private static void code() {
        S.test("A CODE has PARTS, at most 5", () -> {
            String five = "part xo 1;".repeat(5);
            S.due("five", told(five).code(0), 5);
            S.faultAt(five, "part xo 1;", 3);
        });
        S.test("numbered from 0 on as they are told", () -> {
            RangeCodes x = told("part xo 1;part xoo 2;part xooo 3;part xoooo 4;part xooooo 5;");
            for (int p = 0; p < 5; p++) {
                S.due("length of " + p, x.part(p, 0), p + 2);
                S.due("vote of " + p, x.part(p, 1), p + 1);
            }
        });
        S.test("each a ROW of 2 to 13 CHIPS", () -> {
            for (int length = 2; length <= 13; length++) {
                String row = "o".repeat(length - 1) + "x";
                RangeCodes x = told("part " + row + " 1;");
                S.due("length", x.part(0, 0), length);
                S.due("row of " + length, Sentences.row(x, 0), row);
            }
            S.faultAt("part ", "x 1;", 1);
            S.faultAt("part ", "xxxxxxxxxxxxxx 1;", 1);
        });
        S.test("a VOTE, 1 to 9", () -> {
            S.due("1", told("part xo 1;").part(0, 1), 1);
            S.due("9", told("part xo 9;").part(0, 1), 9);
            S.faultAt("part xo ", "0;", 2);
            S.faultAt("part xo ", "10;", 2);
        });
        S.test("PERIOD: the least number that all LENGTHS go into (1 without PARTS)", () -> {
            S.due("without", told("").code(1), 1);
            S.due("the same twice", told("part xo 1;part ox 1;").code(1), 2);
            S.due("one in the other", told("part xo 1;part xxoo 1;part xxxxoooo 1;").code(1), 8);
            S.due("10 and 12", told("part xooooooooo 1;part xooooooooooo 1;").code(1), 60);
            S.due("7, 9, 10, 11, 13: the greatest", told("part xoooooo 1;part xoooooooo 1;part xooooooooo 1;"
                + "part xoooooooooo 1;part xoooooooooooo 1;").code(1), 90090);
        });
        S.test("LIMIT, 1 to 9999 (1000 at first)", () -> {
            S.due("at first", new RangeCodes().code(2), 1000);
            S.due("not told", told("part xo 1;").code(2), 1000);
            S.due("1", told("limit 1;").code(2), 1);
            S.due("9999", told("limit 9999;").code(2), 9999);
            S.faultAt("limit ", "0;", 2);
            S.faultAt("limit ", "10000;", 1);
        });
    }

    private static void chips() {
        S.test("that of its ROW at the remainder of t by its LENGTH, counted from 0 on", () -> {
            RangeCodes x = told("part oxx 1;");
            int[] chips = {0, 1, 1, 0, 1, 1, 0};
            for (int t = 0; t < chips.length; t++) {
                S.due("chip " + t, x.chip(t), chips[t]);
            }
            S.due("2147483646 is 3 times 715827882", x.chip(Sentences.MAX - 1), 0);
            S.due("2147483647", x.chip(Sentences.MAX), 1);
        });
        S.test("of t below 0 the one that is not below 0", () -> {
            RangeCodes x = told("part oxx 1;");
            int[] chips = {0, 1, 1, 0, 1, 1, 0};
            for (int t = 0; t < chips.length; t++) {
                S.due("chip " + -t, x.chip(-t), chips[(6 - t) % 3]);
            }
            S.due("-2147483646 is -3 times 715827882", x.chip(Sentences.MIN + 2), 0);
            S.due("-2147483647 leaves 2", x.chip(Sentences.MIN + 1), 1);
            for (int length = 2; length <= 13; length++) {
                int at = Math.floorMod(Sentences.MIN, length);
                RangeCodes one = told("part " + "o".repeat(at) + "x" + "o".repeat(length - 1 - at) + " 1;");
                S.due("the least int by " + length, one.chip(Sentences.MIN), 1);
                S.due("one more by " + length, one.chip(Sentences.MIN + 1), 0);
                S.due("-1 by " + length, one.chip(-1), at == length - 1 ? 1 : 0);
            }
        });
        S.test("YES, if VOTES of PARTS whose CHIP is YES are together more than those of the others", () -> {
            RangeCodes x = told("part oo 4;part xx 2;part xx 3;");
            S.due("5 to 4", x.chip(0), 1);
            S.due("9 to 8", told("part oo 8;part xx 9;").chip(0), 1);
        });
        S.test("NO, if they are less", () -> {
            S.due("5 to 6", told("part xx 5;part oo 2;part oo 4;").chip(0), 0);
            S.due("8 to 9", told("part xx 8;part oo 9;").chip(0), 0);
        });
        S.test("else as that of PART 0 (without PARTS: NO)", () -> {
            S.due("5 to 5, part 0 is yes", told("part xx 5;part oo 2;part oo 3;").chip(0), 1);
            S.due("5 to 5, part 0 is no", told("part oo 5;part xx 2;part xx 3;").chip(0), 0);
            S.due("5 to 5, part 0 is among the two", told("part oo 2;part xx 5;part oo 3;").chip(0), 0);
            for (int t : new int[] {0, 1, -1, Sentences.MIN, Sentences.MAX}) {
                S.due("without parts", new RangeCodes().chip(t), 0);
            }
        });
    }

    // ---- 1: the legs

    private static void legs() {
        for (int what = 0; what < 6; what++) {
            int number = what;
            S.test("Each has a DELAY, a DRIFT, FROM, MANY, NOISE, a SEED: " + NUMBER_WORDS[what], () -> numberOf(number));
        }
        S.test("how many CHIPS of it are HEARD, numbered by i from 0 on", () -> {
            RangeCodes x = told("part xo 1;out many 3;back many 200;");
            S.due("out", Sentences.heard(x, 0, 3), "xox");
            S.due("3 is none", x.heard(0, 3), -1);
            S.due("199 of back", x.heard(1, 199), 0);
            S.due("200 is none", x.heard(1, 200), -1);
            S.due("one alone", told("part xo 1;out many 1;").heard(0, 1), -1);
        });
        S.test("FLIPS, LOST, JUMPS are 10 together at most of a LEG", () -> {
            for (String leg : new String[] {"out ", "back "}) {
                String ten = (leg + "flip 1;").repeat(3) + (leg + "lose 1 2;").repeat(3)
                    + (leg + "slip 1;").repeat(2) + (leg + "skip 1;").repeat(2);
                int number = leg.equals("out ") ? 0 : 1;
                RangeCodes x = told(ten);
                S.due("flips", x.leg(number, 6), 3);
                S.due("lost", x.leg(number, 7), 3);
                S.due("jumps", x.leg(number, 8), 4);
                S.due("an eleventh by hand", x.mark(number, 0, 1), -1);
                S.due("one of the other leg", x.mark(1 - number, 0, 1), 1);
                S.faultAt(ten + leg, "flip 1;", 4);
            }
        });
    }

    private static void numberOf(int what) {
        for (int leg = 0; leg < 2; leg++) {
            String head = (leg == 0 ? "out " : "back ") + NUMBER_WORDS[what] + " ";
            RangeCodes x = new RangeCodes();
            S.due("at first", x.leg(leg, what), FIRST[what]);
            S.due("least by hand", x.set(leg, what, LEAST[what]) || LEAST[what] == FIRST[what], true);
            S.due("least", x.leg(leg, what), LEAST[what]);
            S.due("below", x.set(leg, what, LEAST[what] - 1), false);
            S.due("most by hand", x.set(leg, what, MOST[what]), true);
            S.due("most", x.leg(leg, what), MOST[what]);
            S.due("beyond", x.set(leg, what, MOST[what] + 1), false);
            S.due("stays", x.leg(leg, what), MOST[what]);
            S.due("the other leg's", x.leg(1 - leg, what), FIRST[what]);
            int least = Math.max(LEAST[what], 0);
            S.due("least told", told(head + least + ";").leg(leg, what), least);
            S.due("most told", told(head + MOST[what] + ";").leg(leg, what), MOST[what]);
            S.due("not told", told("part xo 1;").leg(leg, what), FIRST[what]);
        }
    }

    // ---- 1: the text

    private static void tokens() {
        S.test("THE TEXT has at most 500 bytes", () -> {
            RangeCodes x = new RangeCodes();
            S.due("500", Sentences.write(x, "limit 7;".repeat(62) + " \n  "), 500);
            S.due("one more", x.write((long) ' ' << 56), -1);
            S.due("all of it is read", x.tune(), 0);
            S.due("its last limit", x.code(2), 7);
            RangeCodes last = new RangeCodes();
            S.due("499", Sentences.write(last, "limit 7;".repeat(61) + "    limit 8"), 499);
            S.due("two more", last.write((long) ' ' << 56 | (long) ';' << 48), -1);
            S.due("the sign alone", last.write((long) ';' << 56), 500);
            S.due("is read", last.tune(), 0);
            S.due("up to its last byte", last.code(2), 8);
        });
        S.test("TOKENS, each as long as it goes", () -> {
            S.faultAt("", "partxo 1;", 1);
            S.faultAt("", "limitlimit 5;", 1);
            S.faultAt("out ", "flipflip 5;", 1);
            S.faultAt("out lose 12", ";", 1);
            S.due("15 is one number", told("limit 15;").code(2), 15);
            S.due("xoxo is one row", told("part xoxo 1;").part(0, 0), 4);
            S.faultAt("limit 5", "limit 6;", 1);
            S.due("a number ends a word", told("part xo1;limit7;").code(2), 7);
            S.due("a sign ends a number", told("limit 7;limit 8;").code(2), 8);
        });
        S.test("with blanks (32, 10) between where one likes", () -> {
            S.due("none", told("part xo1;limit7;out lose 1 2;").code(2), 7);
            S.due("many", told(" \n part\n\n xo \n 1\n;\n \nlimit \n 7 ;\n").code(2), 7);
            S.fine(" ");
            S.fine("\n");
            S.fault("par t xo 1;", 1, 0);
            S.fault("limit 1 5;", 1, 8);
        });
        S.test("words, letters a to z", () -> {
            for (int sign = 1; sign < 256; sign++) {
                if (sign >= 'a' && sign <= 'z') {
                    S.fault("limit" + (char) sign + "5;", 1, 0);
                } else if (sign == ' ' || sign == 10 || sign >= '0' && sign <= '9') {
                    S.fine("limit" + (char) sign + "5;");
                } else {
                    S.fault("limit" + (char) sign + "5;", 1, 5);
                }
            }
        });
        S.test("words, 13 at most (a longer word is none)", () -> {
            S.fine("part xoxoxoxoxoxox 1;");
            S.faultAt("part ", "xoxoxoxoxoxoxo 1;", 1);
            S.faultAt("", "partpartpartpart xo 1;", 1);
            S.faultAt("part ", "x".repeat(480), 1);
        });
        S.test("NUMBERS, 1 to 4 digits (a longer row of digits is none)", () -> {
            S.due("1", told("limit 5;").code(2), 5);
            S.due("4", told("limit 9876;").code(2), 9876);
            S.due("4 with 0 ahead", told("limit 0005;").code(2), 5);
            S.faultAt("limit ", "00005;", 1);
            S.faultAt("limit ", "12345;", 1);
            S.faultAt("limit ", "4294967297;", 1);
            S.faultAt("limit ", "1".repeat(480), 1);
            for (int sign = 1; sign < 256; sign++) {
                boolean fine = sign == ' ' || sign == 10 || sign >= '0' && sign <= '9';
                int place = sign == ';' ? 8 : 7;
                S.fault("limit 5" + (char) sign + ";", fine ? 0 : 1, fine ? -1 : place);
            }
        });
        S.test("the sign ;", () -> {
            S.fine("limit 5;");
            S.faultAt("limit 5", ":", 1);
            S.faultAt("limit 5", "<", 1);
            S.faultAt("limit 5", ",", 1);
            S.faultAt("limit 5;", ";", 1);
            S.faultAt("", ";", 1);
        });
    }

    private static void texts() {
        S.test("A text: any number of", () -> {
            S.due("none", told("").code(0), 0);
            S.due("62", told("limit 7;".repeat(62)).code(2), 7);
            S.due("all in a row", told("out seed 5;limit 9;back seed 6;part xo 1;out seed 7;").leg(0, 5), 7);
        });
        S.test("LEG: out, back", () -> {
            S.due("out", told("out delay 5;").leg(0, 0), 5);
            S.due("not back", told("out delay 5;").leg(1, 0), 0);
            S.due("back", told("back delay 5;").leg(1, 0), 5);
            S.due("not out", told("back delay 5;").leg(0, 0), 0);
            S.faultAt("", "leg delay 5;", 1);
        });
        S.test("ROW: a word of x, o alone: YES, NO", () -> {
            S.due("row", Sentences.row(told("part xooxx 1;"), 0), "xooxx");
            S.due("yes alone", told("part xx 1;").part(0, 2), 2);
            S.due("no alone", told("part oo 1;").part(0, 2), 0);
            S.faultAt("part ", "xow 1;", 1);
            S.faultAt("part ", "nox 1;", 1);
            S.faultAt("part ", "xyx 1;", 1);
        });
        S.test("shrink: the DRIFT is 0 less N", () -> {
            S.due("64", told("out shrink 64;").leg(0, 1), -64);
            S.due("0", told("out shrink 0;").leg(0, 1), 0);
            S.due("behind drift", told("out drift 5;out shrink 3;").leg(0, 1), -3);
            S.due("ahead of drift", told("back shrink 3;back drift 5;").leg(1, 1), 5);
        });
        S.test("lose: from, to", () -> {
            RangeCodes x = told("part xx 1;out many 8;out lose 2 4;out lose 6 6;");
            S.due("lost", Sentences.heard(x, 0, 8), "xx...x.x");
        });
        S.test("slip: a JUMP up, skip: a JUMP down", () -> {
            RangeCodes x = told("out many 5;out slip 1;out skip 3;out skip 4;");
            S.due("behind", Sentences.behind(x, 0, 5), "0 1 1 0 -1");
        });
        S.test("Later ones strike", () -> {
            S.due("limit", told("limit 5;limit 6;limit 4;").code(2), 4);
            for (int what = 0; what < 6; what++) {
                String word = NUMBER_WORDS[what];
                RangeCodes x = told("out " + word + " 5;out " + word + " 6;back " + word + " 8;out " + word + " 4;");
                S.due("out " + word, x.leg(0, what), 4);
                S.due("back " + word, x.leg(1, what), 8);
            }
        });
        S.test("but part, flip, lose, slip, skip are further ones", () -> {
            S.due("part", told("part xo 1;part xo 1;").code(0), 2);
            RangeCodes x = told("out many 4;out flip 1;out flip 1;out lose 1 2;out lose 1 2;out slip 1;out slip 1;"
                + "back skip 1;back skip 1;back skip 1;");
            S.due("flip", x.leg(0, 6), 2);
            S.due("lose", x.leg(0, 7), 2);
            S.due("slip", x.leg(0, 8), 2);
            S.due("slip twice", x.behind(0, 1), 2);
            S.due("skip", x.leg(1, 8), 3);
            S.due("skip three times", x.behind(1, 1), -3);
        });
    }

    // ---- 1: the faults

    private static void faultOne() {
        S.test("the place (the byte from 0 on", () -> {
            S.fault("?", 1, 0);
            S.fault(" ?", 1, 1);
            S.fault("limit 0;", 2, 6);
            S.fault("limit 0007;limit 0000;", 2, 17);
        });
        S.test("the end's: how many bytes there are)", () -> {
            S.fault("limit", 1, 5);
            S.fault("limit \n ", 1, 8);
            S.fault("limit 7", 1, 7);
            S.fault("limit 7;".repeat(61) + "part xo    1", 1, 500);
            S.fault("limit 7;".repeat(61) + "part    xoxo", 1, 500);
            S.fault("limit 7;".repeat(61) + "part xo 1   ", 1, 500);
            for (String old : new String[] {"x", "5", " ", ";"}) {
                for (String text : new String[] {"part xo", "part xo 1", "limit ", "limit"}) {
                    RangeCodes x = new RangeCodes();
                    Sentences.write(x, old.repeat(40));
                    x.tune();
                    Sentences.write(x, text);
                    x.tune();
                    S.due("fault of <" + text + "> behind <" + old + ">", x.fault(false), 1);
                    S.due("not an older text's bytes: <" + text + "> behind <" + old + ">", x.fault(true), text.length());
                }
            }
        });
        S.test("1 the first token that can not stand there", () -> {
            S.faultAt("", "1 2 3", 1);
            S.faultAt("part ", "part part", 1);
            S.faultAt("part xo ", "; ;", 1);
            S.faultAt("part xo 1 ", "part", 1);
            S.faultAt("part xo 1; ", "xo 1;", 1);
            S.faultAt("limit ", "; 1;", 1);
            S.faultAt("limit ", "limit 1;", 1);
            S.faultAt("out ", "limit 1;", 1);
            S.faultAt("out ", "part xo 1;", 1);
            S.faultAt("back ", "7;", 1);
            S.faultAt("back ", ";", 1);
            S.faultAt("out ", "back delay 1;", 1);
            S.faultAt("out lose 3 ", ";", 1);
            S.faultAt("out lose 3 4 ", "5;", 1);
            S.faultAt("out flip 3 ", "4;", 1);
            for (String word : new String[] {"delay", "shrink", "lose", "xo", "n", "leg"}) {
                S.faultAt("", word + " 1;", 1);
            }
        });
        S.test("1 the first token that can not stand there: wherever it is, whatever comes behind it", () -> {
            for (String text : ALL_FORMS) {
                for (int at = 0; at >= 0; at = text.indexOf(' ', at + 1)) {
                    String ahead = text.substring(0, at) + " ";
                    S.faultAt(ahead, "? ?", 1);
                    S.faultAt(ahead, "Z ; ; limit 0; 7", 1);
                    S.faultAt(ahead, "leg ; limit 0; 7 ?", 1);
                    S.faultAt(ahead, "12345 ; ?", 1);
                }
            }
        });
        S.test("or a byte that begins none", () -> {
            S.faultAt("part xo 1;", "#part xo 1;", 1);
            S.faultAt("part xo ", "-1;", 1);
            S.faultAt("part ", "Xo 1;", 1);
            S.faultAt("out delay ", "\t5;", 1);
            S.faultAt("part xo", "\r1;", 1);
        });
        S.test("or the end, if more must come", () -> {
            for (String text : ALL_FORMS) {
                S.fine(text);
                for (int at = text.lastIndexOf(' '); at > 0; at = text.lastIndexOf(' ', at - 1)) {
                    S.fault(text.substring(0, at), 1, at);
                    S.fault(text + text.substring(0, at + 1) + "\n", 1, text.length() + at + 2);
                }
            }
        });
        S.test("behind part a word that is no ROW; it stands there with 2 letters or more", () -> {
            S.faultAt("part ", "x 1;", 1);
            S.faultAt("part ", "o 1;", 1);
            S.fine("part xo 1;");
            S.faultAt("part ", "xa 1;", 1);
            S.faultAt("part ", "ax 1;", 1);
            S.faultAt("part ", "limit 1;", 1);
            S.fault("part x", 1, 5);
        });
    }

    private static void faultsByPlace() {
        String five = "part xo 1;".repeat(5);
        String ten = "out flip 1;".repeat(10);
        S.test("If there is none, (the others: FAULT 1 goes ahead of them)", () -> {
            S.faultAt("limit 0;", "?", 1);
            S.faultAt(five + "part xo 1;", "?", 1);
            S.faultAt(ten + "out flip 1;", "?", 1);
            S.faultAt(five + "part xo 0", "", 1);
        });
        S.test("the first by place", () -> {
            S.faultAt("limit ", "0;limit 0;" + five + "part xo 1;", 2);
            S.faultAt(five, "part xo 1;limit 0;", 3);
            S.faultAt(five, "part xo 0;", 3);
            S.faultAt(five, "part xo 1;part xo 1;", 3);
            S.faultAt(ten + "out ", "flip 200;", 4);
            S.faultAt(ten + "out ", "flip 1;limit 0;", 4);
            S.faultAt(ten + "out ", "flip 1;out flip 1;", 4);
            S.faultAt(ten + five + "out ", "flip 1;part xo 1;", 4);
            S.faultAt(ten + five, "part xo 1;out flip 1;", 3);
            S.faultAt("out flip ", "200;" + ten, 2);
        });
    }

    private static void numberAt(String head, int least, int most, String tail) {
        S.fine(head + least + tail);
        S.fine(head + most + tail);
        if (least > 0) {
            S.faultAt(head, (least - 1) + tail, 2);
        }
        if (most < 9999) {
            S.faultAt(head, (most + 1) + tail, 2);
            S.faultAt(head, "9999" + tail, 2);
        }
    }

    private static void faultTwo() {
        S.test("2 a NUMBER that can not be (as above", () -> {
            numberAt("part xo ", 1, 9, ";");
            numberAt("limit ", 1, 9999, ";");
            for (String leg : new String[] {"out ", "back "}) {
                numberAt(leg + "delay ", 0, 9999, ";");
                numberAt(leg + "from ", 0, 9999, ";");
                numberAt(leg + "many ", 1, 200, ";");
                numberAt(leg + "noise ", 0, 100, ";");
                numberAt(leg + "seed ", 0, 9999, ";");
            }
        });
        S.test("of an i 0 to 199", () -> {
            for (String leg : new String[] {"out ", "back "}) {
                numberAt(leg + "flip ", 0, 199, ";");
                numberAt(leg + "slip ", 0, 199, ";");
                numberAt(leg + "skip ", 0, 199, ";");
                numberAt(leg + "lose ", 0, 199, " 199;");
                numberAt(leg + "lose 0 ", 0, 199, ";");
            }
            S.fault("out lose 200 200;", 2, 9);
        });
        S.test("of lose the second one no less than the first", () -> {
            S.fine("out lose 7 7;");
            S.fine("out lose 7 8;");
            S.fault("out lose 7 6;", 2, 11);
            S.fault("out lose 199 0;", 2, 13);
            S.fine("out lose 199 199;");
        });
        S.test("drift, shrink 0 to 64)", () -> {
            for (String leg : new String[] {"out ", "back "}) {
                numberAt(leg + "drift ", 0, 64, ";");
                numberAt(leg + "shrink ", 0, 64, ";");
            }
        });
    }

    private static void faultsOfCounts() {
        S.test("3 the word part of a 6th PART", () -> {
            String five = "part xo 1;limit 5;".repeat(5);
            S.fine(five);
            S.faultAt(five + "  ", "part xo 1;", 3);
        });
        S.test("4 the word flip, lose, slip, skip of an 11th of them of that LEG", () -> {
            for (String leg : new String[] {"out ", "back "}) {
                String other = leg.equals("out ") ? "back " : "out ";
                for (String mark : MARKS) {
                    String ten = (leg + mark).repeat(10);
                    S.fine(ten);
                    S.fine((other + mark).repeat(10) + ten);
                    for (String next : MARKS) {
                        S.faultAt(ten + leg, next, 4);
                        S.fine(ten + other + next);
                    }
                }
            }
        });
    }

    // ---- 2: what is heard

    private static void behindAndSent() {
        S.test("t is FROM and i", () -> {
            RangeCodes x = told("part xoo 1;out from 9999;out many 4;");
            S.due("9999 is 3 times 3333", Sentences.heard(x, 0, 4), "xoox");
            S.due("behind by t, too", told("out from 255;out drift 1;out many 2;").behind(0, 1), 1);
        });
        S.test("DRIFT times t by 256 (rounded down", () -> {
            RangeCodes x = told("out drift 1;out from 254;out many 3;back drift 64;back many 5;");
            S.due("up to 256", Sentences.behind(x, 0, 3), "0 0 1");
            S.due("by 64", Sentences.behind(x, 1, 5), "0 0 0 0 1");
        });
        S.test("of what is below 0 too)", () -> {
            RangeCodes x = told("out shrink 1;out many 2;back shrink 1;back from 255;back many 3;");
            S.due("0, then below 0", Sentences.behind(x, 0, 2), "0 -1");
            S.due("-256 and less", Sentences.behind(x, 1, 3), "-1 -1 -2");
        });
        S.test("BEHIND at its least and its greatest", () -> {
            RangeCodes x = told("part xooooooooo 1;out delay 9999;out drift 64;out from 9999;out many 200;"
                + "back shrink 64;back from 9999;back many 200;" + "out slip 199;".repeat(10) + "back skip 0;".repeat(10));
            // 64 times 10198 by 256 is 2549.5
            S.due("greatest", x.behind(0, 199), 9999 + 2549 + 10);
            S.due("least", x.behind(1, 199), -2550 - 10);
            // 10198 less 12558 is -2360
            S.due("heard far below 0", x.heard(0, 199), 1);
            S.due("not there", x.heard(0, 198), 0);
        });
        S.test("and JUMPS up at i or ahead of it", () -> {
            RangeCodes x = told("out many 5;out slip 3;back many 5;back slip 0;back slip 4;back slip 5;");
            S.due("at 3", Sentences.behind(x, 0, 5), "0 0 0 1 1");
            S.due("at 0 and at the last one", Sentences.behind(x, 1, 5), "1 1 1 1 2");
        });
        S.test("less JUMPS down likewise", () -> {
            RangeCodes x = told("out many 5;out skip 3;back many 5;back skip 0;back skip 4;back skip 5;");
            S.due("at 3", Sentences.behind(x, 0, 5), "0 0 0 -1 -1");
            S.due("at 0 and at the last one", Sentences.behind(x, 1, 5), "-1 -1 -1 -1 -2");
        });
        S.test("It is HEARD: what is SENT at t less BEHIND", () -> {
            RangeCodes x = told("part xoooo 1;out delay 7;out many 6;back many 6;back skip 0;back skip 0;");
            S.due("late: -7 to -2", Sentences.heard(x, 0, 6), "ooxooo");
            x.set(0, 0, 0);
            S.due("early: 2 to 7", Sentences.heard(x, 1, 6), "oooxoo");
        });
    }

    private static void turnedOver() {
        S.test("turned over, if i is in FLIPS (once for each that tells it)", () -> {
            RangeCodes x = told("part xx 1;out many 6;out flip 0;out flip 2;out flip 2;out flip 3;out flip 3;"
                + "out flip 3;out flip 5;out flip 6;");
            S.due("once, twice, three times", Sentences.heard(x, 0, 6), "oxxoxo");
            x.set(0, 3, 7);
            S.due("one beyond MANY waits", x.heard(0, 6), 0);
        });
        S.test("for i from 0 on a DRAW each: x (the SEED at first)", () -> {
            // by SEED 1 the numbers are 16838, 5758, 10113, 17515, 31051, 5627, 23010, 7419
            RangeCodes x = told("part xx 1;out seed 1;out noise 27;out many 8;");
            S.due("13, 15, 10, 19 are below 27", Sentences.heard(x, 0, 8), "xxooxxoo");
            x.set(0, 2, 5000);
            S.due("from i on, not from t", Sentences.heard(x, 0, 8), "xxooxxoo");
        });
        S.test("the DRAW is below NOISE", () -> {
            RangeCodes x = told("part xx 1;out seed 1;out many 1;");
            x.set(0, 4, 38);
            S.due("38 is not below 38", x.heard(0, 0), 1);
            x.set(0, 4, 39);
            S.due("38 is below 39", x.heard(0, 0), 0);
            x.set(0, 5, 0);
            x.set(0, 4, 1);
            S.due("0 is below 1", x.heard(0, 0), 0);
            x.set(0, 4, 0);
            S.due("0 is not below 0", x.heard(0, 0), 1);
            RangeCodes all = told("part xx 1;out noise 100;out many 200;out seed 9999;");
            S.due("all are below 100", all.leg(0, 10), 0);
        });
        S.test("the remainder of x times 1103515245 and 12345 by 2147483648; of x / 65536 (rounded down) by 100", () -> {
            for (int seed = 0; seed <= 9999; seed += 101) {
                RangeCodes x = told("part xx 1;out many 12;out seed " + seed + ";");
                BigInteger draws = BigInteger.valueOf(seed);
                for (int i = 0; i < 12; i++) {
                    draws = draws.multiply(BigInteger.valueOf(1103515245))
                        .add(BigInteger.valueOf(12345)).mod(BigInteger.ONE.shiftLeft(31));
                    int draw = draws.shiftRight(16).intValue() % 100;
                    x.set(0, 4, draw);
                    S.due("seed " + seed + ", i " + i + ": NOISE is the DRAW", x.heard(0, i), 1);
                    x.set(0, 4, draw + 1);
                    S.due("seed " + seed + ", i " + i + ": NOISE is one more", x.heard(0, i), 0);
                }
            }
        });
        S.test("turned over by a FLIP and by NOISE", () -> {
            RangeCodes x = told("part xx 1;out noise 100;out many 3;out flip 1;");
            S.due("twice at 1", Sentences.heard(x, 0, 3), "oxo");
        });
    }

    private static void lost() {
        S.test("Nothing is HEARD at an i that is LOST", () -> {
            RangeCodes x = told("part xx 1;out many 10;out lose 0 1;out lose 3 3;out lose 5 8;out lose 6 7;out flip 3;");
            S.due("both ends are lost", Sentences.heard(x, 0, 10), "..x.x....x");
            S.due("how many are left", x.leg(0, 9), 3);
            RangeCodes all = told("part xx 1;out many 200;out lose 0 199;");
            S.due("none is left", all.leg(0, 9), 0);
            S.due("none is yes", all.leg(0, 10), 0);
            RangeCodes beyond = told("part xx 1;out many 2;out lose 2 199;");
            S.due("those beyond MANY are none", beyond.leg(0, 9), 2);
        });
        S.test("a DRAW each (of an i that is LOST, too)", () -> {
            RangeCodes x = told("part xx 1;out seed 1;out noise 27;out many 8;out lose 0 2;");
            S.due("as without", Sentences.heard(x, 0, 8), "...oxxoo");
        });
    }

    // ---- 2: matches

    private static void matches() {
        S.test("MATCH of a PART in a PLACE, 0 to its LENGTH less 1", () -> {
            RangeCodes x = told("part xxo 1;out many 3;");
            int[] matches = {-1000, 3, -1, -1, -1000};
            for (int place = -1; place <= 3; place++) {
                S.due("place " + place, x.match(0, 0, place), matches[place + 1]);
            }
        });
        S.test("of all i at which anything is HEARD how many are like its CHIP, less how many are unlike", () -> {
            RangeCodes x = told("part xxo 1;out many 3;out lose 0 0;");
            S.due("like", x.match(0, 0, 0), 2);
            S.due("one of each", x.match(0, 0, 1), 0);
            S.due("unlike", x.match(0, 0, 2), -2);
            RangeCodes none = told("part xxo 1;out many 3;out lose 0 2;");
            for (int place = 0; place < 3; place++) {
                S.due("nothing is heard", none.match(0, 0, place), 0);
            }
        });
        S.test("BEST: the PLACE with the greatest MATCH, of several the least", () -> {
            S.due("0 and 2", told("part xoxo 1;").best(0, 0, 0), 0);
            S.due("1 and 3", told("part xoxo 1;out delay 1;").best(0, 0, 0), 1);
            S.due("the last one alone", told("part xoo 1;out delay 2;").best(0, 0, 0), 2);
            S.due("the last one of 13", told("part xoooooooooooo 1;out delay 12;").best(0, 0, 0), 12);
            S.due("all", told("part xxxx 1;out delay 1;").best(0, 0, 0), 0);
            S.due("all, below 0", told("part xx 1;out noise 100;").best(0, 0, 0), 0);
            S.due("its match", told("part xx 1;out noise 100;").best(0, 0, 1), -40);
            S.due("nothing is heard", told("part xoo 1;out delay 2;out lose 0 99;").best(0, 0, 0), 0);
        });
        S.test("EDGE: that MATCH less the greatest one of the other PLACES", () -> {
            S.due("alike ones", told("part xoxo 1;").best(0, 0, 2), 0);
            S.due("two places", told("part xo 1;out many 4;").best(0, 0, 2), 8);
            S.due("best 0: 2, 0, 0", told("part xxo 1;out many 2;").best(0, 0, 2), 2);
            S.due("best 1: 0, 2, -2", told("part xxo 1;out many 2;out delay 1;").best(0, 0, 2), 2);
            S.due("best 2: 0, -2, 2", told("part xxo 1;out many 2;out delay 2;").best(0, 0, 2), 2);
        });
    }

    // ---- 2: what is joined

    private static void joinedOnes() {
        S.test("JOINED: the least number, 0 on, of which the remainders are their BEST PLACES", () -> {
            RangeCodes x = told(THREE);
            for (int delay = 0; delay < 30; delay++) {
                x.set(0, 0, delay);
                S.due("delay " + delay, x.joined(0, 7), delay);
            }
            x.set(0, 0, 30);
            S.due("30 is 0 again", x.joined(0, 7), 0);
            x.set(0, 0, 9999);
            S.due("9999 leaves 9", x.joined(0, 7), 9);
            S.due("no part asks for anything", x.joined(0, 0), 0);
        });
        S.test("there may be none", () -> {
            RangeCodes x = told("part xo 1;part xxoo 9;out delay 1;out many 8;");
            S.due("even and odd", x.joined(0, 3), -1);
            S.due("one alone", x.joined(0, 1), 0);
            S.due("the other alone", x.joined(0, 2), 1);
            x.set(0, 0, 2);
            S.due("both even", x.joined(0, 3), 2);
        });
        S.test("SOUND: all PARTS are JOINED to a number below LIMIT", () -> {
            RangeCodes x = told(THREE + "out delay 7;limit 8;");
            S.due("7 is below 8", x.found(0, 4), 1);
            x.limit(7);
            S.due("7 is not below 7", x.found(0, 4), 0);
            S.due("they are joined all the same", x.joined(0, 7), 7);
            S.due("without parts", told("limit 1;").found(0, 4), 1);
        });
    }

    private static void wrongOnes() {
        // best places of 3, 5, 7 at delay 8: 2, 3, 1
        String places = "part xxo 1;part xxoxo 1;part xxxooxo 1;out delay 8;out many 105;";
        S.test("WRONG: the fewest PARTS without which those that are left are JOINED to a number below LIMIT", () -> {
            RangeCodes x = told(places + "limit 9;");
            S.due("8: none", x.found(0, 1), 0);
            x.limit(8);
            S.due("3 and 7 are 8, 5 and 7 are 8, 3 and 5 are 8: two", Integer.bitCount(x.found(0, 1)), 2);
        });
        S.test("but never all of them (if there are any)", () -> {
            RangeCodes x = told("part xxo 1;out delay 2;limit 3;");
            S.due("2 is below 3", x.found(0, 0), 2);
            x.limit(2);
            S.due("2 is not below 2", x.found(0, 0), -1);
            S.due("not wrong, as it is all", x.found(0, 1), -1);
            RangeCodes two = told("part xxo 1;part xxo 1;out delay 2;limit 2;");
            S.due("neither alone", two.found(0, 0), -1);
            two.limit(3);
            S.due("both", two.found(0, 0), 2);
        });
        S.test("(none, if it is SOUND)", () -> {
            S.due("sound", told(THREE + "out delay 29;limit 30;").found(0, 1), 0);
            S.due("without parts", told("").found(0, 1), 0);
        });
        S.test("of as few the set that is least as bits", () -> {
            RangeCodes x = told(places + "limit 4;");
            S.due("each may be left alone", x.found(0, 5), 3);
            S.due("3 and 5 are the least set", x.found(0, 1), 3);
            S.due("7 is left", x.found(0, 0), 1);
            x.limit(3);
            S.due("3 or 7", x.found(0, 5), 2);
            S.due("3 and 5 still", x.found(0, 1), 3);
            x.swap(0, 2);
            S.due("7 first: 5 and 3 are 6, 7 and 5 are 3", x.found(0, 1), 3);
            S.due("3 is left", x.found(0, 0), 2);
        });
        S.test("DISTANCE: what is JOINED without those that are WRONG (0 without PARTS)", () -> {
            S.due("without parts", told("").found(0, 0), 0);
            S.due("without parts, limit 1", told("limit 1;").found(1, 0), 0);
            S.due("of the one that is left", told(places + "limit 2;").found(0, 0), 1);
        });
        S.test("STEP: the least number that all LENGTHS go into of those that are not WRONG (1 without PARTS)", () -> {
            S.due("without parts", told("").found(0, 2), 1);
            S.due("all", told(places).found(0, 2), 105);
            S.due("7 alone", told(places + "limit 2;").found(0, 2), 7);
            S.due("one in the other", told("part xo 1;part xxoo 9;out many 8;").found(0, 2), 4);
        });
        S.test("If not even one PART alone is JOINED to a number below LIMIT, there is no DISTANCE", () -> {
            RangeCodes x = told(places + "limit 2;");
            S.due("1 is below 2", x.found(0, 0), 1);
            x.limit(1);
            S.due("1, 2 and 3 are not below 1", x.found(0, 0), -1);
        });
        S.test("nor what is told by it", () -> {
            RangeCodes x = told(places + "limit 1;");
            S.due("wrong", x.found(0, 1), -1);
            S.due("step", x.found(0, 2), -1);
            S.due("guesses", x.found(0, 3), 0);
            S.due("guess", x.guess(0, 0), -1);
            S.due("metres", x.metres(0, 1), Long.MIN_VALUE);
            S.due("both", x.both(0), -1000000);
            S.due("both less behind", x.both(2), -1000000);
        });
    }

    private static void guessesAndScores() {
        S.test("GUESSES: all numbers below LIMIT that are DISTANCE and a multiple of STEP, 0 times, too", () -> {
            RangeCodes x = told("part xxo 1;out delay 2;limit 3;");
            S.due("2 alone", x.found(0, 3), 1);
            S.due("2", x.guess(0, 0), 2);
            x.limit(5);
            S.due("5 is not below 5", x.found(0, 3), 1);
            x.limit(6);
            S.due("5 is below 6", x.found(0, 3), 2);
            S.due("5", x.guess(0, 1), 5);
            x.limit(9999);
            S.due("2 to 9998", x.found(0, 3), 3333);
            S.due("9998", x.guess(0, 3332), 9998);
        });
        S.test("SCORE of a number: MATCHES of all PARTS, each in the PLACE that is the remainder, times its VOTE", () -> {
            // heard of the code xo: matches of xo 4, -4; of ooo 0 in all places
            RangeCodes x = told("part xo 9;part ooo 1;out many 4;limit 3;");
            S.due("0", x.likely(0, 0, true), 36);
            S.due("2 alike", x.likely(0, 1, true), 36);
            S.due("1", x.likely(0, 2, true), -36);
            S.due("without parts", told("").likely(0, 0, true), 0);
        });
        S.test("LIKELY: all numbers below LIMIT, of a greater SCORE ahead, of alike ones the lesser", () -> {
            RangeCodes x = told("part xxo 1;out many 2;out delay 2;limit 7;");
            // matches 0, -2, 2
            int[] likely = {2, 5, 0, 3, 6, 1, 4};
            for (int k = 0; k < likely.length; k++) {
                S.due("the " + k + "-th", x.likely(0, k, false), likely[k]);
                S.due("its rank", x.rank(0, likely[k]), k);
            }
            S.due("no more", x.likely(0, 7, false), -1000000);
        });
    }

    private static void broken(RangeCodes x, int... due) {
        for (int what = 0; what < due.length; what++) {
            S.due("broken " + what, x.broken(0, 0, what), due[what]);
        }
    }

    private static void brokenOnes() {
        S.test("BROKEN, of a PART with MANY of 2 or more", () -> {
            broken(told("part xo 1;out many 2;"), 1, 0, 1, 0, -2);
            broken(told("part xo 1;out many 1;"), -1000, -1000, -1000, -1000, -1000);
        });
        S.test("of all i from 1 on below MANY", () -> {
            // the first chip alone is one early: x, then x o x o
            broken(told("part xo 1;out many 5;out slip 1;"), 1, 0, 1, 5, 2);
            // the last one alone is late: x o x o o
            broken(told("part xo 1;out many 5;out slip 4;"), 4, 0, 1, 5, 2);
            broken(told("part xo 1;out many 200;out slip 199;"), 199, 0, 1, 200, 2);
        });
        S.test("a PLACE ahead of it and another PLACE from it on", () -> {
            // x o x o x o fits place 0 alone; the other one must take a chip at the least
            broken(told("part xo 1;out many 6;"), 1, 1, 0, 4, -2);
        });
        S.test("of alike ones the least i, then the least one ahead, then the least one behind", () -> {
            broken(told("part xo 1;out lose 0 199;"), 1, 0, 1, 0, 0);
            broken(told("part xoo 1;out lose 0 199;"), 1, 0, 1, 0, 0);
            broken(told("part xxx 1;out many 5;"), 1, 0, 1, 5, 0);
            // heard . o: behind of i 1 place 0 is x (chip 1 of oxo); places 1 and 2 are o
            broken(told("part oxo 1;out many 2;out lose 0 0;out delay 1;"), 1, 0, 1, 1, 0);
            // heard x . of xxo: places 0 and 2 are x ahead, all are alike behind
            broken(told("part xxo 1;out many 2;out lose 1 1;"), 1, 0, 1, 1, 0);
        });
    }

    // ---- 3: odds

    private static void chance(int n, int p, int m, long upper, long lower) {
        RangeCodes x = new RangeCodes();
        S.due("chance " + n + " " + p + " " + m, x.chance(n, p, m, false), upper);
        S.due("under " + n + " " + p + " " + m, x.chance(n, p, m, true), lower);
    }

    private static void oddsInWholeNumbers() {
        S.test("FULL: were all t from 0 on below PERIOD HEARD just as CHIPS of the CODE", () -> {
            S.due("alone", told("part xxo 1;").full(0, 0), 3);
            S.due("elsewhere", told("part xxo 1;").full(0, 2), -1);
            RangeCodes x = told("part xo 9;part xxo 1;out delay 1;out noise 50;out lose 0 199;out from 77;");
            S.due("legs do nothing", x.full(0, 0), 6);
            S.due("the other place", x.full(0, 1), -6);
        });
        S.test("CHANCE of n, 0 to 18", () -> {
            chance(0, 5, 0, 1, 1);
            chance(0, 5, 1, 0, 1);
            chance(18, 5, 18, 1, 262144);
            chance(18, 5, 9, 77691, 131072);
            chance(19, 5, 9, -1, -1);
            chance(-1, 5, 0, -1, -1);
        });
        S.test("p, 0 to 10", () -> {
            chance(18, 0, 0, 1, 1);
            chance(18, 0, 1, 0, 1);
            chance(18, 10, 18, 1, 1);
            chance(5, 10, 6, 0, 1);
            chance(18, 9, 18, 150094635296999121L, 1000000000000000000L);
            chance(18, 1, 18, 1, 1000000000000000000L);
            chance(5, -1, 0, -1, -1);
            chance(5, 11, 0, -1, -1);
        });
        S.test("and m, 0 to 18: how likely m or more are", () -> {
            chance(2, 5, 0, 1, 1);
            chance(2, 5, 1, 3, 4);
            chance(2, 5, 2, 1, 4);
            chance(2, 5, 3, 0, 1);
            chance(2, 5, 18, 0, 1);
            chance(2, 5, 19, -1, -1);
            chance(2, 5, -1, -1, -1);
        });
        S.test("a fraction in least terms", () -> {
            chance(1, 4, 1, 2, 5);
            chance(1, 6, 1, 3, 5);
            chance(2, 2, 1, 9, 25);
            chance(3, 3, 2, 27, 125);
            chance(1, 3, 1, 3, 10);
        });
        S.test("BAR of n, 1 to 18, and q, 0 to 1000", () -> {
            RangeCodes x = new RangeCodes();
            S.due("0", x.bar(0, 500), -1);
            S.due("1", x.bar(1, 500), 1);
            S.due("18: 172 of 262144, then 988", x.bar(18, 1), 16);
            S.due("19", x.bar(19, 500), -1);
            S.due("q 1000", x.bar(18, 1000), 0);
            S.due("q -1", x.bar(5, -1), -1);
            S.due("q 1001", x.bar(5, 1001), -1);
        });
        S.test("the CHANCE is no more than q of a thousand", () -> {
            RangeCodes x = new RangeCodes();
            S.due("1 of 4 is 250", x.bar(2, 250), 2);
            S.due("249", x.bar(2, 249), 3);
            S.due("3 of 4 is 750", x.bar(2, 750), 1);
            S.due("749", x.bar(2, 749), 2);
            S.due("1 of 8 is 125", x.bar(3, 125), 3);
            S.due("999", x.bar(2, 999), 1);
            S.due("all", x.bar(2, 1000), 0);
        });
        S.test("(n and 1 always is one, its CHANCE is 0)", () -> {
            for (int n = 1; n <= 18; n++) {
                S.due("bar of " + n, new RangeCodes().bar(n, 0), n + 1);
            }
        });
        S.test("METRES of a number, by a UNIT (any long): both multiplied", () -> {
            RangeCodes x = told("part xxo 1;out delay 2;");
            S.due("0", x.metres(0, 0), 0);
            S.due("below 0", x.metres(0, -5), -10);
            S.due("most", x.metres(0, Long.MAX_VALUE / 2), Long.MAX_VALUE - 1);
            S.due("least but two", x.metres(0, Long.MIN_VALUE / 2 + 1), Long.MIN_VALUE + 2);
            S.due("0 of any", told("part xxo 1;").metres(0, Long.MAX_VALUE), 0);
        });
    }

    // ---- 4: the station

    private static void station() {
        S.test("BACK: if there is a DISTANCE of OUT, the station sends the CODE that much late", () -> {
            RangeCodes x = told(THREE + "limit 30;out delay 29;back delay 29;");
            S.due("together 58, by 30", x.found(1, 0), 28);
            RangeCodes near = told("part xoooo 1;out delay 3;back many 5;");
            S.due("3 late", Sentences.heard(near, 1, 5), "oooxo");
            near.set(0, 0, 0);
            S.due("0 late", Sentences.heard(near, 1, 5), "xoooo");
            S.due("of out itself", Sentences.heard(near, 0, 5), "xoooo");
        });
        S.test("If there is none, it is the CHIP of the CODE at 0, whatever the number is", () -> {
            RangeCodes x = told("part xxo 1;out delay 1;limit 1;back delay 7;back drift 64;back many 8;back slip 3;");
            S.due("no distance", x.found(0, 0), -1);
            S.due("yes all along", Sentences.heard(x, 1, 8), "xxxxxxxx");
            x.mark(1, 0, 2);
            S.due("but what is turned over", Sentences.heard(x, 1, 8), "xxoxxxxx");
            x.turn(0, 1);
            x.set(0, 0, 2);
            S.due("no distance", x.found(0, 0), -1);
            S.due("no all along, but for one", Sentences.heard(x, 1, 8), "ooxooooo");
        });
        S.test("(DISTANCE of BACK is that of both together, then, by what is HEARD)", () -> {
            RangeCodes x = told(THREE + "limit 30;out delay 7;back delay 4;");
            S.due("back", x.found(1, 0), 11);
            S.due("out", x.found(0, 0), 7);
            x.limit(11);
            S.due("11 is not below 11", x.found(1, 4), 0);
            x.limit(12);
            S.due("11 is below 12", x.found(1, 4), 1);
        });
    }
}
