import java.util.function.Consumer;
import java.util.function.IntUnaryOperator;
import java.util.function.ToIntFunction;

/**
 * The document's promises 1 to 40: for each sentence that names a boundary case or a refused call a
 * test of its own, named by its words (here and there shortened); and that questions and refused
 * calls change nothing. Answers were worked out by hand from the words.
 */
public final class PromisesBoundariesTest {
    private static final Sentences S = new Sentences();
    private static final int MIN = Sentences.MIN;
    private static final int MAX = Sentences.MAX;
    private static final int GONE = Sentences.GONE;

    /** 3, 5 and 2 chips: 30 together; with 60 heard all parts find their places. */
    private static final String THREE = "part xxo 1;part xxoxo 1;part xo 1;out many 60;back many 60;";

    public static void main(String[] args) {
        newObject();
        writing();
        tuning();
        faults();
        settings();
        votes();
        limits();
        marks();
        cleaning();
        turning();
        swapping();
        enough();
        better();
        codes();
        partsOf();
        chipsAndFulls();
        legsOf();
        heardAndBehind();
        matchesAndBests();
        fragile();
        right();
        joined();
        found();
        guesses();
        likely();
        ranks();
        broken();
        both();
        chances();
        bars();
        metres();
        longer();
        needs();
        tracks();
        silent();
        images();
        changesNothing();
        S.end();
    }

    private static RangeCodes told(String text) {
        return Sentences.told(text);
    }

    /** The numbers just beside what can be, and the ends of the ints. */
    private static int[] beside(int least, int most) {
        return new int[] {least - 1, most + 1, MIN, MAX, -1000, 100000};
    }

    private static void dueAll(String what, int[] numbers, int want, IntUnaryOperator call) {
        for (int number : numbers) {
            S.due(what + " " + number, call.applyAsInt(number), want);
        }
    }

    private static int bit(boolean answer) {
        return answer ? 1 : 0;
    }

    private static void newObject() {
        S.test("1: No PARTS", () -> {
            RangeCodes x = new RangeCodes();
            S.due("parts", x.code(0), 0);
            S.due("part 0", Sentences.partOf(x, 0, 0), GONE);
            S.due("all as at first", Sentences.seen(x), Sentences.seen(told("")));
            S.due("nothing is kept", x.again(0) || x.again(1) || x.again(2), false);
        });
    }

    private static void writing() {
        S.test("2: those of eight, the highest first", () -> {
            RangeCodes x = new RangeCodes();
            S.due("limit 25", x.write(0x6c696d6974203235L), 8);
            S.due("the sign", x.write(0x3b00000000000000L), 9);
            x.tune();
            S.due("25, not 52", x.code(2), 25);
        });
        S.test("2: up to the first one that is 0", () -> {
            RangeCodes x = new RangeCodes();
            for (int bytes = 0; bytes < 8; bytes++) {
                long full = 0x2020202020202020L;
                long hole = full & ~(0xffL << (56 - 8 * bytes));
                S.due(bytes + " bytes", x.write(hole), bytes * (bytes + 1) / 2);
            }
            S.due("all eight", x.write(0x2020202020202020L), 36);
            S.due("none", x.write(0), 36);
            S.due("bytes above 127", x.write(-1L), 44);
            S.due("the least long has one byte", x.write(Long.MIN_VALUE), 45);
        });
        S.test("2: how many THE TEXT has", () -> {
            RangeCodes x = new RangeCodes();
            S.due("at first", x.write(0), 0);
            S.due("two", x.write(0x2020000000000000L), 2);
            S.due("four", x.write(0x2020000000000000L), 4);
            x.tune();
            S.due("anew", x.write(0x2000000000000000L), 1);
        });
        S.test("2: NONE, and nothing comes, if it would have more than 500", () -> {
            for (int there = 493; there <= 500; there++) {
                RangeCodes x = new RangeCodes();
                S.due("there", Sentences.write(x, " ".repeat(there)), there);
                for (int more = 8; more > 500 - there; more--) {
                    S.due(more + " more", x.write(0x2020202020202020L << (64 - 8 * more)), -1);
                    S.due("nothing came", x.code(4), there);
                }
                S.due("none more", x.write(0), there);
                long rest = there == 500 ? 0 : 0x2020202020202020L << (64 - 8 * (500 - there));
                S.due("just 500", x.write(rest), 500);
                S.due("it is read", x.tune(), 0);
            }
        });
    }

    private static void tuning() {
        S.test("3: THE TEXT is read (it is empty then)", () -> {
            RangeCodes x = new RangeCodes();
            S.due("an empty one", x.tune(), 0);
            Sentences.write(x, "part xo 1;");
            S.due("one part", x.tune(), 1);
            S.due("it is empty", x.code(4), 0);
            S.due("it is not there twice: an empty one", x.tune(), 0);
        });
        S.test("3: all is as told", () -> {
            RangeCodes x = told("part xo 1;limit 5;out delay 1;out drift 2;out from 3;out many 4;out noise 5;out seed 6;"
                + "out flip 1;out lose 1 2;out slip 1;back delay 1;back skip 1;");
            x.tune();
            S.due("what is not told is as at first", Sentences.seen(x), Sentences.seen(new RangeCodes()));
        });
        S.test("3: how many PARTS", () -> {
            for (int parts = 0; parts <= 5; parts++) {
                RangeCodes x = new RangeCodes();
                Sentences.write(x, "part xo 1;".repeat(parts));
                S.due("parts", x.tune(), parts);
            }
        });
        S.test("3: NONE: a FAULT (all but THE TEXT, the FAULT stays)", () -> {
            String good = "part xxo 4;limit 7;out delay 3;out flip 2;back many 6;back slip 1;";
            String[] bad = {"limit 0;", "part xo 1;out delay 9;back seed 9;?", "part xo 1;".repeat(6),
                "back slip 1;".repeat(11), "limit 9;part xo"};
            for (String text : bad) {
                RangeCodes x = told(good);
                String ahead = Sentences.seen(x);
                Sentences.write(x, text);
                S.due("tune of " + text, x.tune(), -1);
                S.due("the text is empty", x.code(4), 0);
                S.due("the fault is there", x.fault(false) > 0, true);
                S.due("all but these stays", Sentences.seen(x).replaceFirst(" \\d+ \\d+ xxo4", " 0 -1 xxo4"), ahead);
                S.due("the next text begins anew", Sentences.write(x, "limit 8;"), 8);
                S.due("and is fine", x.tune(), 0);
                S.due("it is as told", x.code(2), 8);
            }
        });
    }

    private static void faults() {
        S.test("4: Of the latest tune(): its FAULT (0 without, and at first)", () -> {
            RangeCodes x = new RangeCodes();
            S.due("at first", x.fault(false), 0);
            Sentences.write(x, "limit 0;");
            S.due("ahead of tune()", x.fault(false), 0);
            x.tune();
            S.due("2", x.fault(false), 2);
            Sentences.write(x, "?");
            S.due("2 still", x.fault(false), 2);
            x.tune();
            S.due("1", x.fault(false), 1);
            x.tune();
            S.due("without", x.fault(false), 0);
            S.fault("part xo 1;".repeat(6), 3, 50);
            S.fault("out flip 1;".repeat(11), 4, 114);
        });
        S.test("4: or (place) its place (NONE without)", () -> {
            RangeCodes x = new RangeCodes();
            S.due("at first", x.fault(true), -1);
            Sentences.write(x, "?");
            x.tune();
            S.due("0", x.fault(true), 0);
            x.tune();
            S.due("without", x.fault(true), -1);
        });
    }

    private static void settings() {
        int[] least = {0, -64, 0, 1, 0, 0};
        int[] most = {9999, 64, 9999, 200, 100, 9999};
        S.test("5: is another number: true", () -> {
            for (int leg = 0; leg < 2; leg++) {
                RangeCodes x = new RangeCodes();
                for (int what = 0; what < 6; what++) {
                    S.due("most", x.set(leg, what, most[what]), true);
                    S.due("it is", x.leg(leg, what), most[what]);
                    S.due("least", x.set(leg, what, least[what]), true);
                    S.due("it is", x.leg(leg, what), least[what]);
                }
            }
        });
        S.test("5: false: it is that already", () -> {
            RangeCodes x = new RangeCodes();
            int[] first = {0, 0, 0, 40, 0, 0};
            for (int what = 0; what < 6; what++) {
                S.due("as at first", x.set(0, what, first[what]), false);
                x.set(1, what, 9);
                S.due("once more", x.set(1, what, 9), false);
                S.due("it stays", x.leg(1, what), 9);
            }
        });
        S.test("5: a number that can not be", () -> {
            for (int leg = 0; leg < 2; leg++) {
                for (int what = 0; what < 6; what++) {
                    RangeCodes x = new RangeCodes();
                    x.set(leg, what, 9);
                    int on = leg;
                    int of = what;
                    dueAll("set " + what, beside(least[what], most[what]), 0, number -> bit(x.set(on, of, number)));
                    S.due("it stays", x.leg(leg, what), 9);
                }
            }
        });
        S.test("5: no such LEG", () -> {
            RangeCodes x = new RangeCodes();
            dueAll("leg", Sentences.NO_LEGS, 0, leg -> bit(x.set(leg, 0, 1)));
        });
        S.test("5: another what", () -> {
            RangeCodes x = new RangeCodes();
            dueAll("what", new int[] {-1, 6, 7, 10, MIN, MAX}, 0, what -> bit(x.set(0, what, 1)));
        });
    }

    private static void votes() {
        S.test("6: The VOTE of a PART is another number: true", () -> {
            RangeCodes x = told("part xo 5;part xo 5;");
            S.due("9", x.vote(0, 9), true);
            S.due("it is", x.part(0, 1), 9);
            S.due("1", x.vote(1, 1), true);
            S.due("it is", x.part(1, 1), 1);
            S.due("the other one stays", x.part(0, 1), 9);
        });
        S.test("6: false: likewise", () -> {
            RangeCodes x = told("part xo 5;part xo 5;");
            S.due("that already", x.vote(0, 5), false);
            dueAll("a number that can not be", beside(1, 9), 0, number -> bit(x.vote(0, number)));
            dueAll("no such part", beside(0, 1), 0, part -> bit(x.vote(part, 7)));
            S.due("without parts", new RangeCodes().vote(0, 1), false);
            S.due("both stay", x.code(3), 10);
        });
    }

    private static void limits() {
        S.test("7: LIMIT is another number: true", () -> {
            RangeCodes x = new RangeCodes();
            S.due("1", x.limit(1), true);
            S.due("it is", x.code(2), 1);
            S.due("9999", x.limit(9999), true);
            S.due("it is", x.code(2), 9999);
        });
        S.test("7: false: likewise", () -> {
            RangeCodes x = new RangeCodes();
            S.due("that already", x.limit(1000), false);
            dueAll("a number that can not be", beside(1, 9999), 0, number -> bit(x.limit(number)));
            S.due("it stays", x.code(2), 1000);
        });
    }

    private static void marks() {
        S.test("8: A FLIP (kind 0), a JUMP up (1), a JUMP down (2) more of a LEG at i, 0 to 199", () -> {
            RangeCodes x = told("part xx 1;out many 200;back many 200;");
            S.due("flip at 0", x.mark(0, 0, 0), 1);
            S.due("flip at 199", x.mark(0, 0, 199), 2);
            S.due("heard at 0", x.heard(0, 0), 0);
            S.due("heard at 1", x.heard(0, 1), 1);
            S.due("heard at 199", x.heard(0, 199), 0);
            S.due("up at 199", x.mark(0, 1, 199), 3);
            S.due("behind at 198", x.behind(0, 198), 0);
            S.due("behind at 199", x.behind(0, 199), 1);
            S.due("down at 0", x.mark(1, 2, 0), 1);
            S.due("behind at 0", x.behind(1, 0), -1);
        });
        S.test("8: how many FLIPS, LOST, JUMPS it has", () -> {
            RangeCodes x = told("out lose 1 1;out flip 1;out slip 1;back lose 1 1;");
            S.due("a fourth", x.mark(0, 2, 5), 4);
            S.due("a second of back", x.mark(1, 0, 5), 2);
        });
        S.test("8: NONE: another number", () -> {
            RangeCodes x = new RangeCodes();
            for (int kind = 0; kind < 3; kind++) {
                int of = kind;
                dueAll("i", beside(0, 199), -1, i -> x.mark(0, of, i));
            }
            S.due("none came", x.clean(0), 0);
        });
        S.test("8: no such LEG", () -> {
            RangeCodes x = new RangeCodes();
            dueAll("leg", Sentences.NO_LEGS, -1, leg -> x.mark(leg, 0, 0));
        });
        S.test("8: another kind", () -> {
            RangeCodes x = new RangeCodes();
            dueAll("kind", new int[] {-1, 3, 4, MIN, MAX}, -1, kind -> x.mark(0, kind, 0));
            S.due("none came", x.clean(0), 0);
        });
        S.test("8: there are 10", () -> {
            RangeCodes x = told("out lose 0 0;");
            for (int k = 2; k <= 10; k++) {
                S.due("the " + k + "-th", x.mark(0, k % 3, k), k);
            }
            for (int kind = 0; kind < 3; kind++) {
                S.due("an 11th", x.mark(0, kind, 3), -1);
            }
            S.due("ten stay", x.clean(0), 10);
            S.due("then there is room", x.mark(0, 0, 3), 1);
        });
    }

    private static void cleaning() {
        S.test("9: All FLIPS, LOST, JUMPS of a LEG go: how many", () -> {
            RangeCodes x = told("part xx 1;out many 4;out flip 0;out lose 1 2;out slip 0;out skip 3;back flip 0;");
            S.due("four", x.clean(0), 4);
            S.due("none is left", x.clean(0), 0);
            S.due("heard", Sentences.heard(x, 0, 4), "xxxx");
            S.due("behind", Sentences.behind(x, 0, 4), "0 0 0 0");
            S.due("back's stays", x.clean(1), 1);
        });
        S.test("9: NONE: no such LEG", () -> {
            RangeCodes x = told("out flip 0;");
            dueAll("leg", Sentences.NO_LEGS, -1, x::clean);
            S.due("it stays", x.clean(0), 1);
        });
    }

    private static void turning() {
        S.test("10: each CHIP comes by so much later, 1 to LENGTH less 1, those at the end at the beginning", () -> {
            RangeCodes x = told("part xxooo 1;part xo 1;part xoooooooooooo 1;");
            S.due("by 1", x.turn(0, 1), true);
            S.due("row", Sentences.row(x, 0), "oxxoo");
            S.due("by 4", x.turn(0, 4), true);
            S.due("row", Sentences.row(x, 0), "xxooo");
            S.due("by 2", x.turn(0, 2), true);
            S.due("row", Sentences.row(x, 0), "ooxxo");
            S.due("by 2 again", x.turn(0, 2), true);
            S.due("round the end", Sentences.row(x, 0), "xooox");
            S.due("1 of 2", x.turn(1, 1), true);
            S.due("row", Sentences.row(x, 1), "ox");
            S.due("12 of 13", x.turn(2, 12), true);
            S.due("row", Sentences.row(x, 2), "oooooooooooox");
            RangeCodes round = told("part xxoxxxoxxoxox 1;");
            for (int k = 1; k <= 13; k++) {
                round.turn(0, 5);
                S.due("as many are YES", round.part(0, 2), 9);
            }
            S.due("13 times round", Sentences.row(round, 0), "xxoxxxoxxoxox");
        });
        S.test("10: false: another number", () -> {
            RangeCodes x = told("part xxooo 1;part xo 1;");
            dueAll("by", new int[] {0, 5, 6, -1, -4, MIN, MAX}, 0, by -> bit(x.turn(0, by)));
            S.due("2 of 2", x.turn(1, 2), false);
            S.due("row", Sentences.row(x, 0), "xxooo");
        });
        S.test("10: no such PART", () -> {
            RangeCodes x = told("part xxooo 1;");
            dueAll("part", beside(0, 0), 0, part -> bit(x.turn(part, 1)));
            S.due("without parts", new RangeCodes().turn(0, 1), false);
        });
    }

    private static void swapping() {
        S.test("11: Two PARTS change places: each has the other one's number: true", () -> {
            RangeCodes x = told("part xxo 1;part xo 2;part oxxo 3;");
            S.due("0 and 2", x.swap(0, 2), true);
            S.due("0", Sentences.row(x, 0), "oxxo");
            S.due("0's vote", x.part(0, 1), 3);
            S.due("1", Sentences.row(x, 1), "xo");
            S.due("2", Sentences.row(x, 2), "xxo");
            S.due("2's vote", x.part(2, 1), 1);
            S.due("back again", x.swap(2, 0), true);
            S.due("0", Sentences.row(x, 0), "xxo");
        });
        S.test("11: false: the same one twice", () -> {
            RangeCodes x = told("part xxo 1;part xo 2;");
            S.due("0", x.swap(0, 0), false);
            S.due("1", x.swap(1, 1), false);
        });
        S.test("11: no such PARTS", () -> {
            RangeCodes x = told("part xxo 1;part xo 2;");
            dueAll("the one", beside(0, 1), 0, part -> bit(x.swap(part, 0)));
            dueAll("the other", beside(0, 1), 0, part -> bit(x.swap(0, part)));
            dueAll("both", beside(0, 1), 0, part -> bit(x.swap(part, part)));
            S.due("without parts", new RangeCodes().swap(0, 1), false);
        });
    }

    private static void enough() {
        S.test("12: the fewest PARTS of which the least number that all their LENGTHS go into is LIMIT or more", () -> {
            RangeCodes x = told("part xo 1;part xoo 1;part xooo 1;part xoooo 1;limit 5;");
            S.due("5 is 5", x.enough(0), 8);
            S.due("three besides", x.enough(1), 3);
            x.limit(6);
            S.due("2 and 3 are 6", x.enough(0), 3);
            x.limit(20);
            S.due("4 and 5 are 20", x.enough(0), 12);
            x.limit(21);
            S.due("2, 3 and 5 are 30", x.enough(0), 11);
            x.limit(60);
            S.due("3, 4 and 5 are 60", x.enough(0), 14);
            S.due("one besides", x.enough(1), 1);
            S.due("none is needed for 1", told("part xo 1;limit 1;").enough(0), 0);
            S.due("all are besides", told("part xo 1;limit 1;").enough(1), 1);
            S.due("one for 2", told("part xo 1;limit 2;").enough(0), 1);
            S.due("none besides", told("part xo 1;limit 2;").enough(1), 0);
        });
        S.test("12: of as few the set that is least as bits", () -> {
            RangeCodes x = told("part xo 1;part xooo 1;part xooo 1;part xxooo 1;limit 4;");
            S.due("1 and 2 have 4", x.enough(0), 2);
            x.limit(10);
            S.due("2 and 5, ahead of 4 and 5", x.enough(0), 9);
        });
        S.test("12: NONE: none", () -> {
            RangeCodes x = told("part xo 1;part xoo 1;limit 7;");
            S.due("set", x.enough(0), -1);
            S.due("besides", x.enough(1), -1);
            S.due("without parts", new RangeCodes().enough(0), -1);
            S.due("without parts", new RangeCodes().enough(1), -1);
        });
        S.test("12: NONE: another what", () -> {
            RangeCodes x = told("part xo 1;limit 2;");
            dueAll("what", new int[] {-1, 2, MIN, MAX}, -1, x::enough);
        });
    }

    private static void better() {
        S.test("13: The VOTE, 1 to 9, by which the least FULL of all PARTS in PLACE 0 is greatest", () -> {
            RangeCodes nine = told("part ox 4;part oxoox 4;part oxx 4;part xxx 9;");
            for (int part = 0; part < 4; part++) {
                RangeCodes x = told("part ox 4;part oxoox 4;part oxx 4;part xxx 9;");
                int best = 0;
                int full = MIN;
                for (int number = 1; number <= 9; number++) {
                    x.vote(part, number);
                    int least = Math.min(Math.min(x.full(0, 0), x.full(1, 0)), Math.min(x.full(2, 0), x.full(3, 0)));
                    best = least > full ? number : best;
                    full = Math.max(full, least);
                }
                S.due("vote of " + part, nine.better(part, false), best);
                S.due("full by " + part, nine.better(part, true), full);
            }
        });
        S.test("13: each VOTE, 1 to 9, where it is the only best one", () -> {
            // by going through all t of the period with all nine votes
            onlyBest("part oxoxx 4;part oooxxoo 6;part xx 3;part oooxo 2;", 3, 1, -2);
            onlyBest("part oxxx 6;part xxo 1;part oxo 6;part oox 2;", 1, 2, -2);
            onlyBest("part oxxoooo 7;part ox 3;part oooooxx 1;part xox 8;", 2, 3, 6);
            onlyBest("part oxoxo 6;part xo 7;part xxxoo 4;part oxoxoxx 1;", 3, 4, 14);
            onlyBest("part oox 4;part ooxoooo 5;part xox 1;part xxoox 5;", 2, 5, 29);
            onlyBest("part xoxox 7;part xxxx 6;part xoxxoxo 1;part oox 8;", 2, 6, 52);
            onlyBest("part ooxo 8;part xxxoo 7;part oxx 1;part ooxooxx 8;", 2, 7, 54);
            onlyBest("part oooxo 9;part xoxxo 8;part oox 1;part oooxoxo 9;", 2, 8, 29);
            onlyBest("part xxooxxo 7;part ox 8;part xooxxox 9;part xxoooxo 1;", 3, 9, 4);
        });
        S.test("13: of several the least one", () -> {
            S.due("alone all are alike", told("part xxo 7;").better(0, false), 1);
            S.due("twice the same", told("part xxo 7;part xxo 3;").better(1, false), 1);
        });
        S.test("13: or (least) that FULL", () -> {
            S.due("alone", told("part xxo 7;").better(0, true), 3);
            // one the other's opposite: either way one has all against it
            S.due("below 0", told("part xo 1;part ox 1;").better(1, true), -2);
            S.due("and the least vote", told("part xo 1;part ox 1;").better(1, false), 1);
        });
        S.test("13: -1000000: no such PART", () -> {
            RangeCodes x = told("part xxo 7;part xo 1;");
            dueAll("part", beside(0, 1), -1000000, part -> x.better(part, false));
            dueAll("part, least", beside(0, 1), -1000000, part -> x.better(part, true));
            S.due("without parts", new RangeCodes().better(0, true), -1000000);
        });
    }

    private static void onlyBest(String text, int part, int vote, int full) {
        RangeCodes x = told(text);
        S.due("vote in " + text, x.better(part, false), vote);
        S.due("full in " + text, x.better(part, true), full);
    }

    private static void codes() {
        S.test("14: What 0: PARTS, 1: PERIOD, 2: LIMIT, 3: all VOTES together, 4: bytes of THE TEXT", () -> {
            int[] first = {0, 1, 1000, 0, 0};
            RangeCodes x = told("part xxo 9;part xo 9;part xxooo 9;part xoooooo 9;part xoooooooooooo 9;limit 5;");
            Sentences.write(x, " ".repeat(500));
            int[] full = {5, 2730, 5, 45, 500};
            for (int what = 0; what < 5; what++) {
                S.due("at first " + what, new RangeCodes().code(what), first[what]);
                S.due("full " + what, x.code(what), full[what]);
            }
        });
        S.test("14: NONE for another what", () -> {
            RangeCodes x = told("part xxo 9;");
            dueAll("what", new int[] {-1, 5, 6, MIN, MAX}, -1, x::code);
        });
    }

    private static void partsOf() {
        S.test("15: Of a PART, what 0: LENGTH, 1: VOTE, 2: how many CHIPS are YES", () -> {
            RangeCodes x = told("part oo 1;part xxxxxxxxxxxxx 9;");
            int[][] due = {{2, 1, 0}, {13, 9, 13}};
            for (int part = 0; part < 2; part++) {
                for (int what = 0; what < 3; what++) {
                    S.due("part " + part + " " + what, x.part(part, what), due[part][what]);
                }
            }
        });
        S.test("15: 10 + k: 1 if the k-th CHIP is YES, else 0", () -> {
            RangeCodes x = told("part xo 1;part ooooooooooxox 1;");
            S.due("first of 2", x.part(0, 10), 1);
            S.due("last of 2", x.part(0, 11), 0);
            S.due("first of 13", x.part(1, 10), 0);
            S.due("10 of 13", x.part(1, 20), 1);
            S.due("last of 13", x.part(1, 22), 1);
        });
        S.test("15: NoSuchElementException: there is none such (of either)", () -> {
            RangeCodes x = told("part xo 1;part ooooooooooxox 1;");
            dueAll("part", beside(0, 1), GONE, part -> Sentences.partOf(x, part, 0));
            dueAll("part, chip", beside(0, 1), GONE, part -> Sentences.partOf(x, part, 10));
            S.due("chip 2 of 2", Sentences.partOf(x, 0, 12), GONE);
            S.due("chip 13 of 13", Sentences.partOf(x, 1, 23), GONE);
            S.due("without parts", Sentences.partOf(new RangeCodes(), 0, 0), GONE);
            x.swap(0, 1);
            S.due("chip 12 by its new number", Sentences.partOf(x, 0, 22), 1);
            S.due("chip 2 by its new number", Sentences.partOf(x, 1, 12), GONE);
        });
        S.test("15: another what", () -> {
            RangeCodes x = told("part xo 1;");
            dueAll("what", new int[] {-1, 3, 4, 9, MIN, MIN + 10, MAX}, GONE, what -> Sentences.partOf(x, 0, what));
        });
    }

    private static void chipsAndFulls() {
        S.test("16: The CHIP of the CODE at t: 1 YES, 0 NO", () -> {
            RangeCodes x = told("part oxx 1;");
            S.due("no", x.chip(0), 0);
            S.due("yes", x.chip(1), 1);
            S.due("-1 is 2", x.chip(-1), 1);
            S.due("the least int is 1", x.chip(MIN), 1);
            S.due("the greatest int is 1", x.chip(MAX), 1);
            S.due("without parts", new RangeCodes().chip(MIN), 0);
        });
        S.test("17: FULL", () -> {
            RangeCodes x = told("part xo 1;part xoo 1;");
            // part 0 leads every tie, so the code is xo: xoo is like it at 0, 1, 5, unlike it at 2, 3, 4
            S.due("of part 0", x.full(0, 0), 6);
            S.due("its last place", x.full(0, 1), -6);
            S.due("of part 1", x.full(1, 0), 0);
            fullByChips("part oxxo 2;part xoxxoxoox 3;part oxxoxo 2;");
            fullByChips("part oxxoxo 2;part oxxo 3;part xoxxoxoox 2;part xooxoxxxox 4;part xxoxo 1;");
            S.due("a whole long period", told("part xoooooooooooo 9;part xoooooooooo 1;part xooooooooo 1;part xoooooooo 1;"
                + "part xoooooo 1;").full(0, 0), 90090);
        });
        S.test("17: -1000000: no such PART, PLACE", () -> {
            RangeCodes x = told("part xo 1;part xoo 1;");
            dueAll("part", beside(0, 1), -1000000, part -> x.full(part, 0));
            dueAll("place of xo", beside(0, 1), -1000000, place -> x.full(0, place));
            dueAll("place of xoo", beside(0, 2), -1000000, place -> x.full(1, place));
            S.due("without parts", new RangeCodes().full(0, 0), -1000000);
        });
    }

    /** FULL of all PARTS in all PLACES, by the CHIPS of the CODE in a whole PERIOD. */
    private static void fullByChips(String text) {
        RangeCodes x = told(text);
        int[] chips = new int[x.code(1)];
        for (int t = 0; t < chips.length; t++) {
            chips[t] = x.chip(t);
        }
        for (int part = 0; part < x.code(0); part++) {
            String row = Sentences.row(x, part);
            for (int place = 0; place < row.length(); place++) {
                int full = 0;
                for (int t = 0; t < chips.length; t++) {
                    char chip = row.charAt(Math.floorMod(t - place, row.length()));
                    full += chip == (chips[t] == 1 ? 'x' : 'o') ? 1 : -1;
                }
                S.due("full " + part + " " + place + " of " + text, x.full(part, place), full);
            }
        }
    }

    private static void legsOf() {
        S.test("18: what 0 to 5: as set(), 6: FLIPS, 7: LOST (how often told), 8: JUMPS", () -> {
            RangeCodes x = told("out lose 0 9;out lose 0 9;out lose 3 3;out flip 4;out flip 4;out slip 1;out skip 1;"
                + "out slip 199;out skip 199;");
            S.due("flips, also of one i", x.leg(0, 6), 2);
            S.due("lost, also of one i", x.leg(0, 7), 3);
            S.due("jumps, also beyond MANY", x.leg(0, 8), 4);
            for (int what = 6; what <= 8; what++) {
                S.due("back has none", x.leg(1, what), 0);
            }
            for (int what = 0; what < 6; what++) {
                x.set(1, what, 50);
                S.due("as set", x.leg(1, what), 50);
            }
        });
        S.test("18: 9: at how many i anything is HEARD", () -> {
            S.due("all", told("out many 200;").leg(0, 9), 200);
            S.due("lost twice", told("out many 9;out lose 2 4;out lose 3 5;").leg(0, 9), 5);
            S.due("none", told("out many 9;out lose 0 8;").leg(0, 9), 0);
            S.due("the last one is left", told("out many 9;out lose 0 7;").leg(0, 9), 1);
        });
        S.test("18: 10: how many of these are YES", () -> {
            S.due("all", told("part xx 1;out many 200;").leg(0, 10), 200);
            S.due("without parts", told("out many 200;").leg(0, 10), 0);
            S.due("of these alone", told("part xx 1;out many 9;out lose 2 4;out flip 0;out flip 3;").leg(0, 10), 5);
        });
        S.test("18: -1000: no such LEG, another what", () -> {
            RangeCodes x = told("part xx 1;");
            for (int what = 0; what <= 10; what++) {
                int of = what;
                dueAll("leg", Sentences.NO_LEGS, -1000, leg -> x.leg(leg, of));
            }
            dueAll("what", new int[] {-1, 11, 12, MIN, MAX}, -1000, what -> x.leg(0, what));
        });
    }

    private static void heardAndBehind() {
        S.test("19: What is HEARD at i: 1 YES, 0 NO, 2 nothing", () -> {
            RangeCodes x = told("part xo 1;out many 3;out lose 2 2;");
            S.due("yes", x.heard(0, 0), 1);
            S.due("no", x.heard(0, 1), 0);
            S.due("nothing", x.heard(0, 2), 2);
            S.due("without parts", new RangeCodes().heard(1, 39), 0);
        });
        S.test("19: NONE: no such LEG, i", () -> {
            RangeCodes x = told("part xo 1;out many 3;back many 200;");
            dueAll("leg", Sentences.NO_LEGS, -1, leg -> x.heard(leg, 0));
            dueAll("i", beside(0, 2), -1, i -> x.heard(0, i));
            dueAll("i of back", beside(0, 199), -1, i -> x.heard(1, i));
        });
        S.test("20: BEHIND at i. Integer.MIN_VALUE: no such LEG, i", () -> {
            RangeCodes x = told("part xo 1;out many 3;out delay 9999;back many 200;");
            S.due("at 0", x.behind(0, 0), 9999);
            S.due("at the last one", x.behind(0, 2), 9999);
            dueAll("leg", Sentences.NO_LEGS, MIN, leg -> x.behind(leg, 0));
            dueAll("i", beside(0, 2), MIN, i -> x.behind(0, i));
            dueAll("i of back", beside(0, 199), MIN, i -> x.behind(1, i));
        });
    }

    private static void matchesAndBests() {
        S.test("21: -1000: no such LEG, PART, PLACE", () -> {
            RangeCodes x = told("part xo 1;part xoo 1;");
            dueAll("leg", Sentences.NO_LEGS, -1000, leg -> x.match(leg, 0, 0));
            dueAll("part", beside(0, 1), -1000, part -> x.match(0, part, 0));
            dueAll("place of xo", beside(0, 1), -1000, place -> x.match(0, 0, place));
            dueAll("place of xoo", beside(0, 2), -1000, place -> x.match(1, 1, place));
            S.due("without parts", new RangeCodes().match(0, 0, 0), -1000);
        });
        S.test("21: MATCH at its greatest and its least", () -> {
            RangeCodes x = told("part xo 1;out many 200;");
            S.due("200", x.match(0, 0, 0), 200);
            S.due("-200", x.match(0, 0, 1), -200);
        });
        S.test("22: 3: how many PLACES have its MATCH", () -> {
            S.due("one", told("part xoo 1;").best(0, 0, 3), 1);
            S.due("two of four", told("part xoxo 1;").best(0, 0, 3), 2);
            S.due("all", told("part ooooooooooooo 1;").best(0, 0, 3), 13);
            S.due("nothing is heard", told("part xoo 1;out lose 0 99;").best(0, 0, 3), 3);
        });
        S.test("22: -1000: no such LEG, PART, another what", () -> {
            RangeCodes x = told("part xo 1;part xoo 1;");
            for (int what = 0; what < 4; what++) {
                int of = what;
                dueAll("leg", Sentences.NO_LEGS, -1000, leg -> x.best(leg, 0, of));
                dueAll("part", beside(0, 1), -1000, part -> x.best(0, part, of));
            }
            dueAll("what", new int[] {-1, 4, 5, MIN, MAX}, -1000, what -> x.best(0, 0, what));
            S.due("without parts", new RangeCodes().best(0, 0, 0), -1000);
        });
    }

    private static void fragile() {
        S.test("23: The fewest i at which what is HEARD would have to be turned over so that BEST is another", () -> {
            // a lesser place wins when they are alike, a greater one must be ahead
            S.due("best 0, 4 chips of xo: 3 of them", told("part xo 1;out many 4;").fragile(0, 0), 3);
            S.due("best 1, 4 chips of xo: 2 of them", told("part xo 1;out many 4;out delay 1;").fragile(0, 0), 2);
            S.due("5 chips: 3", told("part xo 1;out many 5;").fragile(0, 0), 3);
            S.due("5 chips, best 1: 3", told("part xo 1;out many 5;out delay 1;").fragile(0, 0), 3);
            S.due("one chip", told("part xo 1;out many 1;").fragile(0, 0), 1);
            S.due("200 chips", told("part xo 1;out many 200;").fragile(0, 0), 101);
            S.due("those that are lost can not be", told("part xo 1;out many 200;out lose 1 199;").fragile(0, 0), 1);
            // by trying all sets of i
            S.due("ooxox", told("part ooxox 1;out many 5;out delay 5;").fragile(0, 0), 2);
            S.due("xxo", told("part xxo 1;out many 4;out from 1;out delay 2;").fragile(0, 0), 2);
            S.due("oxo", told("part oxo 1;out many 4;out from 1;out delay 2;").fragile(0, 0), 1);
            S.due("alike already: 1", told("part xxo 1;out many 1;").fragile(0, 0), 1);
        });
        S.test("23: NONE: it can not be", () -> {
            S.due("nothing is heard", told("part xo 1;out lose 0 99;").fragile(0, 0), -1);
            S.due("all places are the same", told("part xxxx 1;").fragile(0, 0), -1);
            S.due("two of four are the same, two are not", told("part xoxo 1;out many 1;").fragile(0, 0), 1);
        });
        S.test("23: -1000: no such LEG, PART", () -> {
            RangeCodes x = told("part xo 1;");
            dueAll("leg", Sentences.NO_LEGS, -1000, leg -> x.fragile(leg, 0));
            dueAll("part", beside(0, 0), -1000, part -> x.fragile(0, part));
            S.due("without parts", new RangeCodes().fragile(0, 0), -1000);
        });
    }

    private static void right() {
        S.test("24: PARTS (bits) whose BEST is the remainder by their LENGTH of BEHIND at i 0", () -> {
            RangeCodes x = told(THREE + "out delay 9999;");
            S.due("all", x.right(0), 7);
            S.due("without parts", new RangeCodes().right(0), 0);
            RangeCodes below = told("part xxo 1;out skip 0;");
            S.due("-1 leaves 2", below.right(0), 1);
            S.due("it is 2", below.best(0, 0, 0), 2);
            RangeCodes first = told("part xxo 1;out many 9;out slip 1;");
            S.due("at i 0 alone: 0, but its best is 1", first.right(0), 0);
        });
        S.test("24: (of BACK with DISTANCE of OUT, if there is one)", () -> {
            RangeCodes x = told(THREE + "limit 30;out delay 7;back delay 24;");
            S.due("31 leaves 1", x.right(1), 7);
            // out has no distance: back hears the chip at 0 alone, x: best 0, and behind is 0
            RangeCodes none = told("part xxo 1;out delay 1;limit 1;");
            S.due("without a distance", none.right(1), 1);
            none.set(1, 0, 1);
            S.due("behind 1, best 0", none.right(1), 0);
        });
        S.test("24: NONE: no such LEG", () -> {
            RangeCodes x = told(THREE);
            dueAll("leg", Sentences.NO_LEGS, -1, x::right);
        });
    }

    private static void joined() {
        S.test("25: What some PARTS (bits) are JOINED to", () -> {
            RangeCodes x = told(THREE + "out delay 29;limit 1;");
            int[] due = {0, 2, 4, 14, 1, 5, 9, 29};
            for (int parts = 0; parts < due.length; parts++) {
                S.due("parts " + parts + ", LIMIT is nothing here", x.joined(0, parts), due[parts]);
            }
        });
        S.test("25: NONE: they are not", () -> {
            S.due("0 by 2, 1 by 4", told("part xo 1;part xxoo 9;out delay 1;out many 8;").joined(0, 3), -1);
        });
        S.test("25: -2: no such LEG, PARTS", () -> {
            RangeCodes x = told(THREE);
            dueAll("leg", Sentences.NO_LEGS, -2, leg -> x.joined(leg, 0));
            dueAll("parts", new int[] {-1, 8, 9, 16, 32, MIN, MAX}, -2, parts -> x.joined(0, parts));
            RangeCodes five = told("part xo 1;".repeat(5));
            S.due("31 of five", five.joined(0, 31), 0);
            S.due("32 of five", five.joined(0, 32), -2);
            S.due("1 without parts", new RangeCodes().joined(0, 1), -2);
            S.due("0 without parts", new RangeCodes().joined(0, 0), 0);
        });
    }

    private static void found() {
        S.test("26: 5: how many sets of as few PARTS as are WRONG there are", () -> {
            S.due("sound: the empty set", told(THREE).found(0, 5), 1);
            S.due("without parts", told("").found(0, 5), 1);
            RangeCodes x = told("part xo 1;part xxoo 9;out delay 1;out many 8;");
            S.due("either", x.found(0, 5), 2);
            x.limit(1);
            S.due("only that of 1: 0 is below 1", x.found(0, 5), 1);
            S.due("the other one is wrong", x.found(0, 1), 2);
        });
        S.test("26: NONE: there is no DISTANCE (3, 4, 5: 0)", () -> {
            RangeCodes x = told("part xxo 1;out delay 2;limit 2;");
            int[] due = {-1, -1, -1, 0, 0, 0};
            for (int what = 0; what < 6; what++) {
                S.due("what " + what, x.found(0, what), due[what]);
            }
        });
        S.test("26: NONE: no such LEG", () -> {
            RangeCodes x = told(THREE);
            for (int what = 0; what < 6; what++) {
                int of = what;
                dueAll("leg, what " + what, Sentences.NO_LEGS, -1, leg -> x.found(leg, of));
            }
        });
        S.test("26: NONE: another what", () -> {
            RangeCodes x = told(THREE);
            dueAll("what", new int[] {-1, 6, 7, MIN, MAX}, -1, what -> x.found(0, what));
            RangeCodes none = told("part xxo 1;out delay 2;limit 2;");
            dueAll("what without a distance", new int[] {-1, 6, MIN, MAX}, -1, what -> none.found(0, what));
        });
    }

    private static void guesses() {
        S.test("27: The k-th of GUESSES, rising", () -> {
            RangeCodes x = told("part xxo 1;out delay 2;limit 9;");
            int[] due = {2, 5, 8};
            for (int k = 0; k < 3; k++) {
                S.due("guess " + k, x.guess(0, k), due[k]);
            }
        });
        S.test("27: NONE: not so many, no such LEG", () -> {
            RangeCodes x = told("part xxo 1;out delay 2;limit 9;");
            dueAll("k", beside(0, 2), -1, k -> x.guess(0, k));
            x.set(0, 0, 1);
            S.due("-1, where 1 less the step would be -2", x.guess(0, -1), -1);
            x.set(0, 0, 2);
            S.due("3 times the step is beyond the ints", x.guess(0, 715827882), -1);
            x.limit(8);
            S.due("8 is not below 8", x.guess(0, 2), -1);
            x.limit(2);
            S.due("no distance", x.guess(0, 0), -1);
            dueAll("leg", Sentences.NO_LEGS, -1, leg -> x.guess(leg, 0));
            S.due("the last one without parts", told("limit 9999;").guess(0, 9998), 9998);
            S.due("one more", told("limit 9999;").guess(0, 9999), -1);
        });
    }

    private static void likely() {
        S.test("28: The k-th that is LIKELY, 0 to 19, or (score) its SCORE", () -> {
            RangeCodes x = told("part xo 2;out many 3;limit 9999;");
            S.due("0", x.likely(0, 0, false), 0);
            S.due("19", x.likely(0, 19, false), 38);
            S.due("score", x.likely(0, 19, true), 6);
            S.due("200 times 9 of five parts", told("part xo 9;".repeat(5) + "out many 200;").likely(0, 0, true), 9000);
            S.due("and below 0", told("part xo 9;".repeat(5) + "out many 200;limit 2;").likely(0, 1, true), -9000);
        });
        S.test("28: -1000000: not so many", () -> {
            RangeCodes x = told("part xo 2;limit 1;");
            S.due("the one", x.likely(0, 0, false), 0);
            S.due("no second one", x.likely(0, 1, false), -1000000);
            S.due("no score of it", x.likely(0, 1, true), -1000000);
            x.limit(19);
            S.due("19 of them: the last one", x.likely(0, 18, false), 17);
            S.due("no 20th", x.likely(0, 19, false), -1000000);
            x.limit(20);
            S.due("20 of them", x.likely(0, 19, false), 19);
        });
        S.test("28: another k, no such LEG", () -> {
            RangeCodes x = told("part xo 2;");
            dueAll("k", beside(0, 19), -1000000, k -> x.likely(0, k, false));
            dueAll("k, score", beside(0, 19), -1000000, k -> x.likely(0, k, true));
            dueAll("leg", Sentences.NO_LEGS, -1000000, leg -> x.likely(leg, 0, false));
            dueAll("leg, score", Sentences.NO_LEGS, -1000000, leg -> x.likely(leg, 0, true));
        });
    }

    private static void ranks() {
        S.test("29: The place of a number among those that are LIKELY, from 0 on", () -> {
            RangeCodes x = told("part xo 2;limit 5;");
            int[] due = {0, 3, 1, 4, 2};
            for (int number = 0; number < 5; number++) {
                S.due("rank of " + number, x.rank(0, number), due[number]);
            }
            RangeCodes three = told("part xxo 1;out many 2;out delay 2;");
            for (int limit = 1; limit <= 9; limit++) {
                three.limit(limit);
                for (int k = 0; k < limit; k++) {
                    S.due("limit " + limit + ", the " + k + "-th", three.rank(0, three.likely(0, k, false)), k);
                }
            }
            x.limit(9999);
            S.due("the last number, even", x.rank(0, 9998), 4999);
            S.due("the last of all, odd", x.rank(0, 9997), 9998);
        });
        S.test("29: NONE: it is not below LIMIT, is below 0, no such LEG", () -> {
            RangeCodes x = told("part xo 2;limit 5;");
            dueAll("number", beside(0, 4), -1, number -> x.rank(0, number));
            dueAll("leg", Sentences.NO_LEGS, -1, leg -> x.rank(leg, 0));
        });
    }

    private static void broken() {
        S.test("30: 4: how much more that is than the MATCH of BEST", () -> {
            S.due("more", told("part xo 1;out many 4;out slip 2;").broken(0, 0, 4), 4);
            S.due("less", told("part xo 1;out many 4;").broken(0, 0, 4), -2);
            S.due("alike", told("part xx 1;").broken(0, 0, 4), 0);
            RangeCodes twice = told("part xo 1;part xx 1;out many 9;back many 4;");
            S.due("9 chips", twice.broken(0, 0, 3), 7);
            S.due("4 chips then", twice.broken(1, 0, 3), 2);
            S.due("9 once more", twice.broken(0, 0, 3), 7);
            S.due("the other part", twice.broken(0, 1, 3), 1);
            S.due("13 chips a row", told("part xoooooooooooo 1;out many 13;out slip 3;").broken(0, 0, 3), 13);
        });
        S.test("30: -1000: no such LEG, PART, MANY is 1, another what", () -> {
            RangeCodes x = told("part xo 1;back many 1;");
            for (int what = 0; what < 5; what++) {
                int of = what;
                dueAll("leg", Sentences.NO_LEGS, -1000, leg -> x.broken(leg, 0, of));
                dueAll("part", beside(0, 0), -1000, part -> x.broken(0, part, of));
                S.due("MANY of out is not 1", x.broken(0, 0, what) == -1000, false);
                S.due("MANY of back is 1", x.broken(1, 0, what), -1000);
            }
            x.set(1, 3, 2);
            S.due("MANY of back is 2", x.broken(1, 0, 0), 1);
            dueAll("what", new int[] {-1, 5, 6, MIN, MAX}, -1000, what -> x.broken(0, 0, what));
            S.due("without parts", new RangeCodes().broken(0, 0, 0), -1000);
        });
    }

    private static void both() {
        S.test("31: What 0: DISTANCE of BACK less that of OUT", () -> {
            RangeCodes x = told(THREE + "limit 30;out delay 29;back delay 29;");
            S.due("28 less 29", x.both(0), -1);
            S.due("without parts", told("").both(0), 0);
        });
        S.test("31: 1: BEHIND of both LEGS at i 0 together", () -> {
            RangeCodes x = told("out delay 9999;back delay 9999;out slip 0;back slip 1;");
            S.due("both and a jump at 0", x.both(1), 19999);
            S.due("not at 1", told("out slip 1;back skip 1;out drift 64;back shrink 0;out many 9;").both(1), 0);
            S.due("below 0", told("out skip 0;back skip 0;").both(1), -2);
            S.due("without a distance, too", told("part xxo 1;out delay 2;limit 1;").both(1), 2);
        });
        S.test("31: 2: DISTANCE of BACK less that", () -> {
            RangeCodes x = told(THREE + "limit 30;out delay 29;back delay 29;");
            S.due("28 less 58", x.both(2), -30);
            S.due("without parts", told("out delay 3;").both(2), -3);
        });
        S.test("31: -1000000: of 0, 2: there is none (of either)", () -> {
            // OUT has none; BACK hears x alone and has 0
            RangeCodes out = told("part xxo 1;out delay 1;limit 1;");
            S.due("out", out.found(0, 0), -1);
            S.due("back", out.found(1, 0), 0);
            S.due("both 0", out.both(0), -1000000);
            S.due("both 2", out.both(2), -1000000);
            // OUT has 0; BACK comes 1 late, so it has none
            RangeCodes back = told("part xxo 1;back delay 1;limit 1;");
            S.due("out", back.found(0, 0), 0);
            S.due("back", back.found(1, 0), -1);
            S.due("both 0", back.both(0), -1000000);
            S.due("both 2", back.both(2), -1000000);
        });
        S.test("31: another what", () -> {
            RangeCodes x = told(THREE);
            dueAll("what", new int[] {-1, 3, 4, MIN, MAX}, -1000000, x::both);
        });
    }

    private static void chances() {
        S.test("32: CHANCE, its upper number, or (under) its lower one", () -> {
            RangeCodes x = new RangeCodes();
            S.due("2 of 5", x.chance(1, 4, 1, false), 2);
            S.due("2 of 5", x.chance(1, 4, 1, true), 5);
            S.due("0 of 1", x.chance(1, 4, 2, false), 0);
            S.due("0 of 1", x.chance(1, 4, 2, true), 1);
            S.due("the greatest lower one", x.chance(18, 7, 18, true), 1000000000000000000L);
        });
        S.test("32: NONE: other numbers", () -> {
            RangeCodes x = new RangeCodes();
            for (boolean under : new boolean[] {false, true}) {
                dueAll("n", beside(0, 18), -1, n -> (int) x.chance(n, 5, 5, under));
                dueAll("p", beside(0, 10), -1, p -> (int) x.chance(5, p, 5, under));
                dueAll("m", beside(0, 18), -1, m -> (int) x.chance(5, 5, m, under));
            }
        });
    }

    private static void bars() {
        S.test("33: BAR. NONE: other numbers", () -> {
            RangeCodes x = new RangeCodes();
            S.due("least n", x.bar(1, 0), 2);
            S.due("greatest n", x.bar(18, 0), 19);
            S.due("greatest q", x.bar(1, 1000), 0);
            dueAll("n", beside(1, 18), -1, n -> x.bar(n, 500));
            dueAll("q", beside(0, 1000), -1, q -> x.bar(5, q));
        });
    }

    private static void metres() {
        S.test("34: METRES of DISTANCE of a LEG", () -> {
            RangeCodes x = told("part xxo 1;out delay 2;back delay 2;");
            S.due("out", x.metres(0, 150), 300);
            S.due("back: 4 leaves 1", x.metres(1, 150), 150);
        });
        S.test("34: Long.MIN_VALUE: it is no long", () -> {
            RangeCodes x = told("part xxo 1;out delay 2;");
            long half = 4611686018427387904L;
            S.due("just too great", x.metres(0, half), Long.MIN_VALUE);
            S.due("just not", x.metres(0, half - 1), Long.MAX_VALUE - 1);
            S.due("just too small", x.metres(0, -half - 1), Long.MIN_VALUE);
            S.due("just not: the least long itself", x.metres(0, -half), Long.MIN_VALUE);
            S.due("one more", x.metres(0, -half + 1), Long.MIN_VALUE + 2);
            S.due("the greatest", x.metres(0, Long.MAX_VALUE), Long.MIN_VALUE);
            S.due("the least", x.metres(0, Long.MIN_VALUE), Long.MIN_VALUE);
            RangeCodes seven = told(THREE + "limit 30;out delay 7;");
            S.due("least by 7", seven.metres(0, Long.MIN_VALUE / 7), Long.MIN_VALUE / 7 * 7);
            S.due("one less by 7", seven.metres(0, Long.MIN_VALUE / 7 - 1), Long.MIN_VALUE);
            S.due("most by 7", seven.metres(0, Long.MAX_VALUE / 7), Long.MAX_VALUE / 7 * 7);
            S.due("one more by 7", seven.metres(0, Long.MAX_VALUE / 7 + 1), Long.MIN_VALUE);
            S.due("round to a small one", x.metres(0, Long.MAX_VALUE / 2 + 10), Long.MIN_VALUE);
        });
        S.test("34: Long.MIN_VALUE: there is none, no such LEG", () -> {
            RangeCodes x = told("part xxo 1;out delay 2;limit 2;");
            S.due("none", x.metres(0, 5), Long.MIN_VALUE);
            S.due("none, 0", x.metres(0, 0), Long.MIN_VALUE);
            for (int leg : Sentences.NO_LEGS) {
                S.due("leg " + leg, told(THREE).metres(leg, 5), Long.MIN_VALUE);
            }
        });
    }

    private static void longer() {
        S.test("35: If MANY of a LEG were n, 1 to 200: what as found()", () -> {
            RangeCodes x = told("part xxo 1;out delay 2;out many 200;back delay 2;back many 1;");
            S.due("1: x may be 0", x.longer(0, 1, 0), 0);
            S.due("2: xo is 2", x.longer(0, 2, 0), 2);
            for (int what = 0; what < 6; what++) {
                S.due("200 " + what, x.longer(0, 200, what), x.found(0, what));
                S.due("1 of back " + what, x.longer(1, 1, what), x.found(1, what));
            }
            S.due("out's MANY is its own: 4 leaves 1", x.longer(1, 200, 0), 1);
            x.limit(2);
            S.due("no distance: 0 guesses", x.longer(0, 200, 3), 0);
            S.due("no distance: not sound", x.longer(0, 200, 4), 0);
            S.due("no distance: no sets", x.longer(0, 200, 5), 0);
            S.due("no distance", x.longer(0, 200, 0), -1);
        });
        S.test("35: NONE: no such LEG, another n, another what", () -> {
            RangeCodes x = told(THREE);
            for (int what = 0; what < 6; what++) {
                int of = what;
                dueAll("leg", Sentences.NO_LEGS, -1, leg -> x.longer(leg, 5, of));
                dueAll("n", beside(1, 200), -1, n -> x.longer(0, n, of));
            }
            dueAll("what", new int[] {-1, 6, 7, MIN, MAX}, -1, what -> x.longer(0, 5, what));
        });
    }

    private static void needs() {
        S.test("36: The least MANY, 1 to 200", () -> {
            S.due("1", told("part xxo 1;out delay 1;").needs(0, 1), 1);
            S.due("2", told("part xxo 1;out delay 2;").needs(0, 2), 2);
            S.due("200: the last one alone tells", told("part xxo 1;out delay 2;out lose 0 198;").needs(0, 2), 200);
            S.due("none of 200", told("part xxo 1;out delay 2;out lose 0 199;").needs(0, 2), -1);
            S.due("0 by nothing", told("part xxo 1;out delay 2;out lose 0 199;").needs(0, 0), 1);
        });
        S.test("36: by which DISTANCE is a number, 0 to 9999", () -> {
            S.due("without parts", new RangeCodes().needs(0, 0), 1);
            // all 13, 11, 9, 8 of them are heard in turn
            RangeCodes x = told("part xxxxooxxoxoxo 1;part xxxoooxooxo 1;part xxxooxoxo 1;part xxxoxooo 1;"
                + "out delay 9998;limit 9999;");
            int many = x.needs(0, 9998);
            S.due("9998 is found by some", many >= 1 && many <= 200, true);
            S.due("by these", x.longer(0, many, 0), 9998);
            S.due("by one less it is not", x.longer(0, many - 1, 0) == 9998 && x.longer(0, many - 1, 1) == 0, false);
            x.limit(9998);
            S.due("it is not below LIMIT", x.needs(0, 9998), -1);
        });
        S.test("36: and nothing is WRONG", () -> {
            RangeCodes x = told("part xo 1;part xxoo 9;out delay 3;");
            S.due("3 is the distance", x.found(0, 0), 3);
            S.due("but one is wrong", x.found(0, 1), 1);
            S.due("by no MANY", x.needs(0, 3), -1);
        });
        S.test("36: NONE: none, no such LEG, another number", () -> {
            RangeCodes x = told("part xxo 1;limit 9999;");
            dueAll("number", beside(0, 9999), -1, number -> x.needs(0, number));
            S.due("-1, where they are not joined", told("part xo 1;part xxoo 9;out delay 1;").needs(0, -1), -1);
            S.due("9999 is never below LIMIT", x.needs(0, 9999), -1);
            S.due("2 never comes", x.needs(0, 2), -1);
            dueAll("leg", Sentences.NO_LEGS, -1, leg -> x.needs(leg, 0));
        });
    }

    private static void tracks() {
        S.test("37: if FROM were k times a step (1 to 200) more, k 0 to 20", () -> {
            RangeCodes x = told(THREE + "limit 30;out delay 3;out drift 1;out from 56;");
            S.due("k 0", x.track(0, 200, 0), x.found(0, 0));
            S.due("from 256", x.track(0, 200, 1), 4);
            S.due("step 1, k 20: 76", x.track(0, 1, 20), 3);
            S.due("from 56 + 4000: 15 times 256 and 216", x.track(0, 195, 20), 18);
        });
        S.test("37: (it may be beyond 9999 then)", () -> {
            RangeCodes x = told(THREE + "limit 30;out from 9999;out drift 64;out many 3;");
            x.set(0, 1, 1);
            x.set(0, 3, 60);
            // 13999 by 256 is 54.7: 54 leaves 24
            S.due("13999", x.track(0, 200, 20), 24);
            S.due("FROM stays", x.leg(0, 2), 9999);
        });
        S.test("37: NONE: there is none", () -> {
            S.due("none", told("part xxo 1;out delay 2;limit 2;").track(0, 3, 1), -1);
        });
        S.test("37: -2: no such LEG, other numbers", () -> {
            RangeCodes x = told(THREE);
            dueAll("leg", Sentences.NO_LEGS, -2, leg -> x.track(leg, 1, 0));
            dueAll("step", beside(1, 200), -2, step -> x.track(0, step, 0));
            dueAll("k", beside(0, 20), -2, k -> x.track(0, 1, k));
        });
    }

    private static void silent() {
        S.test("38: If a PART had no VOTE (0): MATCH of its BEST", () -> {
            // part 1 wins all; silent, it leaves xo alone
            S.due("won", told("part xo 1;part xxoo 9;out many 4;").best(0, 1, 1), 4);
            S.due("silent", told("part xo 1;part xxoo 9;out many 4;").silent(0, 1), 0);
            S.due("alone: all votes are 0, so it is as PART 0", told("part xxo 9;out many 6;").silent(0, 0), 6);
            S.due("PART 0 breaks ties all the same", told("part xo 5;part xx 1;part oo 1;out many 6;").silent(0, 0), 6);
        });
        S.test("38: of both LEGS, so the station may send it by another DISTANCE", () -> {
            // OUT hears x o x (of xxo, 2 late): xxo finds 2, xoo finds 0, the first one is WRONG: 0.
            // Were xxo silent, OUT would hear o o x (of xoo, 2 late): xxo finds 1, xoo finds 2: 2.
            RangeCodes x = told("part xxo 9;part xoo 1;out delay 2;out many 3;back many 2;");
            S.due("out as it is", x.found(0, 0), 0);
            // so BACK hears o o (xoo 2 late), of which xxo has but one; x o it would have whole
            S.due("back", x.silent(1, 0), 0);
        });
        S.test("38: -1000: no such LEG, PART", () -> {
            RangeCodes x = told("part xxo 1;");
            dueAll("leg", Sentences.NO_LEGS, -1000, leg -> x.silent(leg, 0));
            dueAll("part", beside(0, 0), -1000, part -> x.silent(0, part));
            S.due("without parts", new RangeCodes().silent(0, 0), -1000);
        });
    }

    private static void images() {
        S.test("39: All that there is (THE TEXT, the FAULT, too) is kept as k, 0 to 2: true", () -> {
            for (int k = 0; k < 3; k++) {
                RangeCodes x = busy();
                String ahead = Sentences.seen(x);
                S.due("image", x.image(k), true);
                x.tune();
                x.clean(0);
                Sentences.write(x, "limit 5;limit 6;limit 7;");
                S.due("again", x.again(k), true);
                S.due("all", Sentences.seen(x), ahead);
                S.due("its text is read", x.tune(), 1);
                S.due("its text", Sentences.row(x, 0), "ooxx");
            }
        });
        S.test("39: false for another k", () -> {
            RangeCodes x = new RangeCodes();
            dueAll("k", beside(0, 2), 0, k -> bit(x.image(k)));
            S.due("nothing is kept", x.again(0) || x.again(1) || x.again(2), false);
        });
        S.test("40: All is as it was kept as k: true", () -> {
            RangeCodes x = new RangeCodes();
            for (int k = 0; k < 3; k++) {
                x.limit(10 + k);
                x.image(k);
            }
            for (int k : new int[] {1, 0, 2, 1, 1}) {
                S.due("again", x.again(k), true);
                S.due("limit", x.code(2), 10 + k);
                x.limit(77);
            }
            x.image(0);
            x.limit(78);
            x.again(0);
            S.due("kept over", x.code(2), 77);
        });
        S.test("40: false if there is none such", () -> {
            RangeCodes x = new RangeCodes();
            for (int k = 0; k < 3; k++) {
                S.due("not kept " + k, x.again(k), false);
            }
            x.image(1);
            S.due("0", x.again(0), false);
            S.due("2", x.again(2), false);
            dueAll("k", beside(0, 2), 0, k -> bit(x.again(k)));
            S.due("1", x.again(1), true);
        });
    }

    // ---- questions and refused calls

    /** An object with something of everything: marks, a text that is not read yet, a FAULT, an image. */
    private static RangeCodes busy() {
        RangeCodes x = told("part xxo 2;part xxooo 3;part xo 4;limit 30;out delay 7;out drift 3;out from 90;out many 12;"
            + "out noise 9;out seed 5;out flip 2;out lose 4 5;out slip 6;back delay 1;back many 9;back skip 3;back flip 8;");
        Sentences.write(x, "limit 0;");
        x.tune();
        x.image(1);
        x.vote(0, 5);
        x.set(1, 3, 10);
        Sentences.write(x, "part ooxx 7;");
        return x;
    }

    /** All that there is of an object, what is kept and THE TEXT's bytes, too; it is used up by this. */
    private static String all(RangeCodes x) {
        StringBuilder all = new StringBuilder(Sentences.seen(x));
        x.tune();
        all.append(" / ").append(Sentences.seen(x));
        for (int k = 0; k < 3; k++) {
            all.append(" / ").append(x.again(k)).append(' ').append(x.code(3)).append(' ').append(x.leg(1, 3));
            all.append(' ').append(x.fault(true)).append(' ').append(x.code(4));
        }
        return all.toString();
    }

    private static void sameBehind(String what, Consumer<RangeCodes> call) {
        RangeCodes x = busy();
        call.accept(x);
        S.due("all behind " + what, all(x), all(busy()));
    }

    private static void refused(String what, ToIntFunction<RangeCodes> call, int answer) {
        sameBehind(what, x -> S.due(what, call.applyAsInt(x), answer));
    }

    private static void changesNothing() {
        S.test("Questions change nothing", () -> {
            for (int leg = -1; leg <= 2; leg++) {
                for (int number = -1; number <= 3; number++) {
                    int l = leg;
                    int n = number;
                    sameBehind("questions of the code", x -> askCode(x, n));
                    sameBehind("questions of a leg " + leg + " " + number, x -> askHeard(x, l, n));
                    sameBehind("questions of what is joined " + leg + " " + number, x -> askJoined(x, l, n));
                    sameBehind("questions of what would be " + leg + " " + number, x -> askLonger(x, l, n));
                }
            }
        });
        S.test("Refused calls change nothing", () -> {
            refused("set: a number", x -> bit(x.set(0, 1, 65)), 0);
            refused("set: that already", x -> bit(x.set(0, 0, 7)), 0);
            refused("set: no leg", x -> bit(x.set(2, 0, 3)), 0);
            refused("set: another what", x -> bit(x.set(0, 6, 3)), 0);
            refused("vote: a number", x -> bit(x.vote(0, 10)), 0);
            refused("vote: 0", x -> bit(x.vote(0, 0)), 0);
            refused("vote: that already", x -> bit(x.vote(0, 5)), 0);
            refused("vote: no part", x -> bit(x.vote(3, 1)), 0);
            refused("limit: 0", x -> bit(x.limit(0)), 0);
            refused("limit: 10000", x -> bit(x.limit(10000)), 0);
            refused("limit: that already", x -> bit(x.limit(30)), 0);
            refused("mark: an i", x -> x.mark(0, 0, 200), -1);
            refused("mark: no leg", x -> x.mark(2, 0, 1), -1);
            refused("mark: a kind", x -> x.mark(0, 3, 1), -1);
            refused("clean: no leg", x -> x.clean(2), -1);
            refused("turn: 0", x -> bit(x.turn(0, 0)), 0);
            refused("turn: its length", x -> bit(x.turn(0, 3)), 0);
            refused("turn: no part", x -> bit(x.turn(3, 1)), 0);
            refused("swap: the same", x -> bit(x.swap(1, 1)), 0);
            refused("swap: no part", x -> bit(x.swap(0, 3)), 0);
            refused("image: 3", x -> bit(x.image(3)), 0);
            refused("again: 3", x -> bit(x.again(3)), 0);
            refused("again: not kept", x -> bit(x.again(0)), 0);
        });
        S.test("Refused calls change nothing: write behind 500 bytes", () -> {
            RangeCodes x = busy();
            Sentences.write(x, " ".repeat(484));
            S.due("five are too many", x.write(0x3f3f3f3f3f000000L), -1);
            S.due("496", x.code(4), 496);
            S.due("as if it had not come", x.tune(), 1);
        });
        S.test("Refused calls change nothing: mark behind ten", () -> {
            RangeCodes x = told("out many 20;" + "out flip 3;".repeat(10));
            String ahead = Sentences.seen(x);
            S.due("an 11th", x.mark(0, 1, 3), -1);
            S.due("all", Sentences.seen(x), ahead);
        });
        S.test("at most 5 PARTS, of 13 CHIPS: each question has its answer", () -> {
            RangeCodes x = told("part xoooooooooooo 9;".repeat(5) + "out delay 12;out many 200;back many 200;");
            int[] got = {x.code(1), x.full(4, 12), x.match(0, 4, 12), x.best(1, 4, 0), x.right(0), x.joined(0, 31),
                x.found(1, 0), x.guess(0, 1), x.likely(0, 0, true), x.rank(0, 12), x.rank(0, 0), x.needs(0, 12),
                x.needs(1, 12), x.track(0, 200, 20), x.silent(0, 4), x.enough(0), x.better(4, true), x.longer(0, 13, 2)};
            // ahead of 0 are 76 numbers that leave 12 and 77 each that leave 5 to 11: their x is heard as o
            // 15 times of 200, that of 0 to 4 is 16 times; 12 chips of o leave place 12 alone
            int[] due = {13, 13 - 4, 200, 12, 31, 12, 12, 25, 9000, 0, 76 + 7 * 77, 12, 12, 12, 200, -1, 13, 13};
            for (int k = 0; k < due.length; k++) {
                S.due("answer " + k, got[k], due[k]);
            }
        });
        S.test("An object is used for at most 512 calls after it has been made", () -> {
            RangeCodes x = new RangeCodes();
            for (int call = 1; call < 511; call += 2) {
                S.due("call " + call, x.limit(7 + call % 4), true);
                S.due("call " + (call + 1), x.image(call % 3), true);
            }
            S.due("call 511", x.again(0), true);
            S.due("call 512: as it was kept with call 508", x.code(2), 10);
        });
    }

    private static void askCode(RangeCodes x, int n) {
        x.fault(true);
        x.fault(false);
        x.enough(n);
        x.better(n, false);
        x.better(n, true);
        x.code(n);
        Sentences.partOf(x, n, 0);
        Sentences.partOf(x, 0, n);
        Sentences.partOf(x, 0, 10 + n);
        x.chip(n);
        x.full(n, 0);
        x.full(0, n);
        x.chance(n, 5, 1, false);
        x.chance(3, n, 1, true);
        x.bar(n, 500);
        x.both(n);
    }

    private static void askHeard(RangeCodes x, int leg, int n) {
        for (int what = 0; what <= 11; what++) {
            x.leg(leg, what);
        }
        x.heard(leg, n);
        x.behind(leg, n);
        x.match(leg, n, 0);
        x.match(leg, 0, n);
        x.best(leg, n, 0);
        x.best(leg, 0, n);
        x.fragile(leg, n);
        x.right(leg);
    }

    private static void askJoined(RangeCodes x, int leg, int n) {
        x.joined(leg, n);
        x.found(leg, n);
        x.guess(leg, n);
        x.likely(leg, n, false);
        x.likely(leg, n, true);
        x.rank(leg, n);
        x.broken(leg, n, 0);
        x.broken(leg, 0, n);
        x.metres(leg, n);
    }

    private static void askLonger(RangeCodes x, int leg, int n) {
        x.longer(leg, n, 0);
        x.longer(leg, 200, n);
        x.needs(leg, n);
        x.track(leg, 200, n);
        x.track(leg, n, 20);
        x.silent(leg, n);
    }
}
