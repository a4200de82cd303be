import java.nio.charset.StandardCharsets;
import java.util.NoSuchElementException;

/**
 * Tests that are named by a sentence of the document each. One that fails (or throws) is told with
 * its sentence, and the others still run.
 */
final class Sentences {
    static final int MIN = Integer.MIN_VALUE;
    static final int MAX = Integer.MAX_VALUE;
    /** Stands for a NoSuchElementException of part(). */
    static final int GONE = -77777;
    /** No LEG, and no PART of any CODE, has such a number. */
    static final int[] NO_LEGS = {-1, 2, 3, MIN, MAX};

    private int sentences;
    private int checks;
    private int wrong;
    private String words;

    void test(String sentence, Runnable body) {
        sentences++;
        words = sentence;
        try {
            body.run();
        } catch (RuntimeException thrown) {
            fail("threw " + thrown);
        }
    }

    void due(String what, long got, long want) {
        checks++;
        if (got != want) {
            fail(what + " answered " + got + ", due is " + want);
        }
    }

    void due(String what, boolean got, boolean want) {
        due(what, got ? 1 : 0, want ? 1 : 0);
    }

    void due(String what, String got, String want) {
        checks++;
        if (!got.equals(want)) {
            fail(what + " answered " + got + ", due is " + want);
        }
    }

    /** What a text on a new object is due to end with: no FAULT, or one at a place. */
    void fault(String text, int number, int place) {
        RangeCodes x = new RangeCodes();
        write(x, text);
        int parts = x.tune();
        due("fault of <" + text + ">", x.fault(false), number);
        due("place in <" + text + ">", x.fault(true), place);
        due("tune of <" + text + ">", parts == RangeCodes.NONE, number != 0);
    }

    void fine(String text) {
        fault(text, 0, RangeCodes.NONE);
    }

    /** A text whose FAULT is at the first byte of the last of the given words. */
    void faultAt(String ahead, String rest, int number) {
        fault(ahead + rest, number, ahead.length());
    }

    void end() {
        System.out.println(sentences + " sentences, " + checks + " checks, " + wrong + " answers are not as due");
        if (wrong != 0) {
            System.exit(1);
        }
    }

    private void fail(String how) {
        wrong++;
        System.out.println("\"" + words + "\": " + how);
    }

    static int write(RangeCodes x, String text) {
        byte[] bytes = text.getBytes(StandardCharsets.ISO_8859_1);
        int answer = 0;
        for (int at = 0; at < bytes.length; at += 8) {
            long eight = 0;
            for (int k = at; k < at + 8; k++) {
                eight = eight << 8 | (k < bytes.length ? bytes[k] & 255 : 0);
            }
            answer = x.write(eight);
        }
        return answer;
    }

    static RangeCodes told(String text) {
        RangeCodes x = new RangeCodes();
        write(x, text);
        if (x.tune() == RangeCodes.NONE) {
            throw new IllegalStateException("fault " + x.fault(false) + " at " + x.fault(true) + " in " + text);
        }
        return x;
    }

    static int partOf(RangeCodes x, int part, int what) {
        try {
            return x.part(part, what);
        } catch (NoSuchElementException none) {
            return GONE;
        }
    }

    /** What is HEARD of a LEG as a text: x, o, and . for nothing. */
    static String heard(RangeCodes x, int leg, int many) {
        StringBuilder heard = new StringBuilder();
        for (int i = 0; i < many; i++) {
            int chip = x.heard(leg, i);
            heard.append(chip == 1 ? 'x' : chip == 0 ? 'o' : chip == 2 ? '.' : '?');
        }
        return heard.toString();
    }

    /** BEHIND of a LEG at i 0 on, with blanks between. */
    static String behind(RangeCodes x, int leg, int many) {
        StringBuilder behind = new StringBuilder();
        for (int i = 0; i < many; i++) {
            behind.append(i == 0 ? "" : " ").append(x.behind(leg, i));
        }
        return behind.toString();
    }

    static String row(RangeCodes x, int part) {
        StringBuilder row = new StringBuilder();
        for (int k = 0; k < x.part(part, 0); k++) {
            row.append(x.part(part, 10 + k) == 1 ? 'x' : 'o');
        }
        return row.toString();
    }

    /** All that can be seen of an object but THE TEXT's bytes and what is kept. */
    static String seen(RangeCodes x) {
        StringBuilder seen = new StringBuilder();
        for (int what = 0; what < 5; what++) {
            seen.append(x.code(what)).append(' ');
        }
        seen.append(x.fault(false)).append(' ').append(x.fault(true));
        for (int part = 0; part < x.code(0); part++) {
            seen.append(' ').append(row(x, part)).append(x.part(part, 1));
        }
        for (int leg = 0; leg < 2; leg++) {
            for (int what = 0; what <= 10; what++) {
                seen.append(' ').append(x.leg(leg, what));
            }
            int many = Math.min(x.leg(leg, 3), 12);
            seen.append(' ').append(heard(x, leg, many)).append(' ').append(behind(x, leg, many));
        }
        return seen.toString();
    }
}
