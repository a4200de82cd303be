import java.util.Arrays;
import java.util.NoSuchElementException;

/**
 * Distance by composite codes, as ../shared/DOC.md promises it. The words that stand in capitals
 * in comments are the document's terms.
 */
public final class RangeCodes {
    public static final int NONE = -1;

    private static final int MOST_PARTS = 5;
    private static final int LEAST_LENGTH = 2;
    private static final int MOST_LENGTH = 13;
    private static final int MOST_VOTE = 9;
    private static final int MOST_LIMIT = 9999;
    private static final int FIRST_LIMIT = 1000;
    private static final int MOST_MANY = 200;
    private static final int FIRST_MANY = 40;
    private static final int MOST_MARKS = 10;
    private static final int MOST_BYTES = 500;
    private static final int MOST_LIKELY = 20;
    private static final int MOST_STEP = 200;
    private static final int MOST_STEPS = 20;
    private static final int IMAGES = 3;

    private static final int LEGS = 2;
    private static final int OUT = 0;
    private static final int BACK = 1;

    /** What set() tells of a LEG; these are also the places in Leg.numbers. */
    private static final int DELAY = 0;
    private static final int DRIFT = 1;
    private static final int FROM = 2;
    private static final int MANY = 3;
    private static final int NOISE = 4;
    private static final int SEED = 5;
    private static final int SETTINGS = 6;
    private static final int[] LEAST_SETTING = {0, -64, 0, 1, 0, 0};
    private static final int[] MOST_SETTING = {9999, 64, 9999, 200, 100, 9999};

    /** Kinds of marks; the first three are those of mark(). */
    private static final int FLIP = 0;
    private static final int UP = 1;
    private static final int DOWN = 2;
    private static final int LOSE = 3;

    private static final int NO = 0;
    private static final int YES = 1;
    private static final int NOTHING = 2;

    private static final int MOST_TRIALS = 18;
    private static final int TENTHS = 10;
    private static final int THOUSAND = 1000;

    private static final int NO_MATCH = -1000;
    private static final int NO_FULL = -1000000;
    private static final int NO_SUCH = -2;

    private final Page now;
    private final Page[] images;
    private final Told told;
    private final Reader reader;
    private final Ear ear;
    private final Split split;
    private final Ranking ranking;
    private final Tally tally;

    public RangeCodes() {
        now = new Page();
        images = new Page[IMAGES];
        told = now.told;
        reader = new Reader(now.text);
        ear = new Ear(told);
        split = new Split(ear);
        ranking = new Ranking(ear);
        tally = new Tally();
    }

    public int write(long eight) {
        int more = 0;
        while (more < 8 && byteOf(eight, more) != 0) {
            more++;
        }
        if (now.bytes + more > MOST_BYTES) {
            return NONE;
        }
        for (int k = 0; k < more; k++) {
            now.text[now.bytes + k] = byteOf(eight, k);
        }
        now.bytes += more;
        return now.bytes;
    }

    public int tune() {
        reader.readAll(now.bytes);
        now.bytes = 0;
        now.fault = reader.fault;
        now.place = reader.place;
        if (reader.fault != 0) {
            return NONE;
        }
        told.copyFrom(reader.told);
        return told.parts;
    }

    public int fault(boolean place) {
        return place ? now.place : now.fault;
    }

    // ---- by hand

    public boolean set(int leg, int what, int number) {
        if (!isLeg(leg) || what < 0 || what >= SETTINGS) {
            return false;
        }
        int[] numbers = told.legs[leg].numbers;
        if (number < LEAST_SETTING[what] || number > MOST_SETTING[what] || number == numbers[what]) {
            return false;
        }
        numbers[what] = number;
        return true;
    }

    public boolean vote(int part, int number) {
        if (!told.hasPart(part) || number < 1 || number > MOST_VOTE || number == told.votes[part]) {
            return false;
        }
        told.votes[part] = number;
        return true;
    }

    public boolean limit(int number) {
        if (number < 1 || number > MOST_LIMIT || number == told.limit) {
            return false;
        }
        told.limit = number;
        return true;
    }

    public int mark(int leg, int kind, int i) {
        if (!isLeg(leg) || kind < FLIP || kind > DOWN || i < 0 || i >= MOST_MANY) {
            return NONE;
        }
        Leg marked = told.legs[leg];
        return marked.addMark(kind, i, i) ? marked.marks : NONE;
    }

    public int clean(int leg) {
        if (!isLeg(leg)) {
            return NONE;
        }
        Leg cleaned = told.legs[leg];
        int gone = cleaned.marks;
        cleaned.marks = 0;
        return gone;
    }

    public boolean turn(int part, int by) {
        if (!told.hasPart(part) || by < 1 || by >= told.lengths[part]) {
            return false;
        }
        told.rows[part] = turned(told.rows[part], told.lengths[part], by);
        return true;
    }

    public boolean swap(int part, int other) {
        if (!told.hasPart(part) || !told.hasPart(other) || part == other) {
            return false;
        }
        swapIn(told.lengths, part, other);
        swapIn(told.rows, part, other);
        swapIn(told.votes, part, other);
        return true;
    }

    // ---- the code

    public int enough(int what) {
        if (what != 0 && what != 1) {
            return NONE;
        }
        int all = told.allParts();
        for (int few = 0; few <= told.parts; few++) {
            for (int parts = 0; parts <= all; parts++) {
                if (Integer.bitCount(parts) == few && told.periodOf(parts) >= told.limit) {
                    return what == 0 ? parts : told.parts - few;
                }
            }
        }
        return NONE;
    }

    public int better(int part, boolean least) {
        if (!told.hasPart(part)) {
            return NO_FULL;
        }
        tally.takeCode(told);
        tally.countAll();
        int best = 1;
        int bestFull = tally.leastFull(told.election(part, 1));
        for (int number = 2; number <= MOST_VOTE; number++) {
            int next = tally.leastFull(told.election(part, number));
            if (next > bestFull) {
                best = number;
                bestFull = next;
            }
        }
        return least ? bestFull : best;
    }

    public int code(int what) {
        switch (what) {
            case 0:
                return told.parts;
            case 1:
                return told.periodOf(told.allParts());
            case 2:
                return told.limit;
            case 3:
                return told.votesOf(told.allParts());
            case 4:
                return now.bytes;
            default:
                return NONE;
        }
    }

    public int part(int part, int what) throws NoSuchElementException {
        if (!told.hasPart(part)) {
            throw new NoSuchElementException("no such part");
        }
        if (what >= 10 && told.hasPlace(part, what - 10)) {
            return told.chipOf(part, what - 10);
        }
        switch (what) {
            case 0:
                return told.lengths[part];
            case 1:
                return told.votes[part];
            case 2:
                return Integer.bitCount(told.rows[part]);
            default:
                throw new NoSuchElementException("no such chip, or another what");
        }
    }

    public int chip(int t) {
        return told.codeChip(t, told.election(NONE, 0));
    }

    public int full(int part, int place) {
        if (!told.hasPart(part) || !told.hasPlace(part, place)) {
            return NO_FULL;
        }
        tally.takeCode(told);
        int length = told.lengths[part];
        int held = tally.addRow(length, turned(told.rows[part], length, place));
        tally.countAll();
        return tally.fullOf(held, told.election(NONE, 0));
    }

    // ---- what is heard

    public int leg(int leg, int what) {
        if (!isLeg(leg)) {
            return NO_MATCH;
        }
        Leg asked = told.legs[leg];
        if (what >= 0 && what < SETTINGS) {
            return asked.numbers[what];
        }
        switch (what) {
            case 6:
                return asked.countOf(FLIP);
            case 7:
                return asked.countOf(LOSE);
            case 8:
                return asked.countOf(UP) + asked.countOf(DOWN);
            case 9:
                ear.listen(leg);
                return ear.countOf(YES) + ear.countOf(NO);
            case 10:
                ear.listen(leg);
                return ear.countOf(YES);
            default:
                return NO_MATCH;
        }
    }

    public int heard(int leg, int i) {
        if (!hasChip(leg, i)) {
            return NONE;
        }
        ear.listen(leg);
        return ear.heard[i];
    }

    public int behind(int leg, int i) {
        return hasChip(leg, i) ? lagOf(leg, i) : Integer.MIN_VALUE;
    }

    public int match(int leg, int part, int place) {
        if (!isLeg(leg) || !told.hasPart(part) || !told.hasPlace(part, place)) {
            return NO_MATCH;
        }
        ear.listen(leg);
        return ear.matches[part][place];
    }

    public int best(int leg, int part, int what) {
        if (!isLeg(leg) || !told.hasPart(part) || what < 0 || what > 3) {
            return NO_MATCH;
        }
        ear.listen(leg);
        switch (what) {
            case 0:
                return ear.bests[part];
            case 1:
                return ear.bestMatch(part);
            case 2:
                return ear.edge(part);
            default:
                return ear.alike(part);
        }
    }

    public int fragile(int leg, int part) {
        if (!isLeg(leg) || !told.hasPart(part)) {
            return NO_MATCH;
        }
        ear.listen(leg);
        return ear.fewestTurns(part);
    }

    public int right(int leg) {
        if (!isLeg(leg)) {
            return NONE;
        }
        ear.listen(leg);
        int whole = lagOf(leg, 0);
        if (ear.late != NONE) {
            whole += ear.late;
        }
        int parts = 0;
        for (int p = 0; p < told.parts; p++) {
            if (ear.bests[p] == rest(whole, told.lengths[p])) {
                parts |= 1 << p;
            }
        }
        return parts;
    }

    // ---- what is joined

    public int joined(int leg, int parts) {
        if (!isLeg(leg) || parts < 0 || parts > told.allParts()) {
            return NO_SUCH;
        }
        ear.listen(leg);
        return ear.join(parts);
    }

    public int found(int leg, int what) {
        if (!isLeg(leg)) {
            return NONE;
        }
        ear.listen(leg);
        return ear.finding(what);
    }

    public int guess(int leg, int k) {
        if (!isLeg(leg) || k < 0) {
            return NONE;
        }
        ear.listen(leg);
        return k < ear.guesses() ? ear.distance + k * ear.step : NONE;
    }

    public int likely(int leg, int k, boolean score) {
        if (!isLeg(leg) || k < 0 || k >= MOST_LIKELY || k >= told.limit) {
            return NO_FULL;
        }
        ear.listen(leg);
        ranking.rankFirst(k + 1);
        return score ? ranking.scores[k] : ranking.numbers[k];
    }

    public int rank(int leg, int number) {
        if (!isLeg(leg) || number < 0 || number >= told.limit) {
            return NONE;
        }
        ear.listen(leg);
        return ranking.placeOf(number);
    }

    public int broken(int leg, int part, int what) {
        if (!isLeg(leg) || !told.hasPart(part) || what < 0 || what > 4
                || told.legs[leg].numbers[MANY] < 2) {
            return NO_MATCH;
        }
        ear.listen(leg);
        split.find(part);
        switch (what) {
            case 0:
                return split.at;
            case 1:
                return split.placeAhead;
            case 2:
                return split.placeBehind;
            case 3:
                return split.together;
            default:
                return split.together - ear.bestMatch(part);
        }
    }

    public int both(int what) {
        int lags = lagOf(OUT, 0) + lagOf(BACK, 0);
        if (what == 1) {
            return lags;
        }
        if (what != 0 && what != 2) {
            return NO_FULL;
        }
        ear.listen(BACK);
        if (ear.late == NONE || ear.distance == NONE) {
            return NO_FULL;
        }
        return ear.distance - (what == 0 ? ear.late : lags);
    }

    // ---- odds, metres

    public long chance(int n, int p, int m, boolean under) {
        if (n < 0 || n > MOST_TRIALS || p < 0 || p > TENTHS || m < 0 || m > MOST_TRIALS) {
            return NONE;
        }
        long upper = 0;
        for (int k = m; k <= n; k++) {
            upper += ways(n, k) * (power(p, k) * power(TENTHS - p, n - k));
        }
        long lower = power(TENTHS, n);
        long common = commonDivisor(upper, lower);
        if (common < 1) {
            return NONE;
        }
        return (under ? lower : upper) / common;
    }

    public int bar(int n, int q) {
        if (n < 1 || n > MOST_TRIALS || q < 0 || q > THOUSAND) {
            return NONE;
        }
        long allowed = q * power(2, n);
        long upper = 0;
        int m = n + 1;
        while (m > 0 && (upper + ways(n, m - 1)) * THOUSAND <= allowed) {
            m--;
            upper += ways(n, m);
        }
        return m;
    }

    public long metres(int leg, long unit) {
        if (!isLeg(leg)) {
            return Long.MIN_VALUE;
        }
        ear.listen(leg);
        long distance = ear.distance;
        if (distance == NONE) {
            return Long.MIN_VALUE;
        }
        if (distance == 0) {
            return 0;
        }
        if (unit > Long.MAX_VALUE / distance || unit < Long.MIN_VALUE / distance) {
            return Long.MIN_VALUE;
        }
        return distance * unit;
    }

    // ---- what would be

    public int longer(int leg, int n, int what) {
        if (!isLeg(leg) || n < 1 || n > MOST_MANY) {
            return NONE;
        }
        ear.listenAs(leg, told.legs[leg].numbers[FROM], n, told.election(NONE, 0));
        return ear.finding(what);
    }

    public int needs(int leg, int number) {
        if (!isLeg(leg) || number < 0 || number >= told.limit) {
            return NONE;
        }
        ear.listenAs(leg, told.legs[leg].numbers[FROM], MOST_MANY, told.election(NONE, 0));
        ear.forgetMatches();
        for (int many = 1; many <= MOST_MANY; many++) {
            ear.matchOne(many - 1);
            ear.pickBests();
            if (ear.join(told.allParts()) == number) {
                return many;
            }
        }
        return NONE;
    }

    public int track(int leg, int step, int k) {
        if (!isLeg(leg) || step < 1 || step > MOST_STEP || k < 0 || k > MOST_STEPS) {
            return NO_SUCH;
        }
        int[] numbers = told.legs[leg].numbers;
        ear.listenAs(leg, numbers[FROM] + k * step, numbers[MANY], told.election(NONE, 0));
        return ear.distance;
    }

    public int silent(int leg, int part) {
        if (!isLeg(leg) || !told.hasPart(part)) {
            return NO_MATCH;
        }
        int[] numbers = told.legs[leg].numbers;
        ear.listenAs(leg, numbers[FROM], numbers[MANY], told.election(part, 0));
        return ear.bestMatch(part);
    }

    // ---- kept

    public boolean image(int k) {
        if (k < 0 || k >= IMAGES) {
            return false;
        }
        // most objects keep none, so its room is made at the first time
        if (images[k] == null) {
            images[k] = new Page();
        }
        images[k].copyFrom(now);
        return true;
    }

    public boolean again(int k) {
        if (k < 0 || k >= IMAGES || images[k] == null) {
            return false;
        }
        now.copyFrom(images[k]);
        return true;
    }

    private static boolean isLeg(int leg) {
        return leg >= 0 && leg < LEGS;
    }

    private boolean hasChip(int leg, int i) {
        return isLeg(leg) && i >= 0 && i < told.legs[leg].numbers[MANY];
    }

    private int lagOf(int leg, int i) {
        Leg asked = told.legs[leg];
        return asked.lag(i, asked.numbers[FROM] + i);
    }

    private static byte byteOf(long eight, int k) {
        return (byte) (eight >>> (56 - 8 * k));
    }

    private static void swapIn(int[] numbers, int one, int other) {
        int kept = numbers[one];
        numbers[one] = numbers[other];
        numbers[other] = kept;
    }

    /** The ROW (as bits) with each CHIP so much later; by is 0 to length less 1. */
    private static int turned(int row, int length, int by) {
        int mask = (1 << length) - 1;
        return ((row << by) | (row >>> (length - by))) & mask;
    }

    /** The remainder that is not below 0. */
    private static int rest(int number, int by) {
        if (by < 1) {
            return 0;
        }
        int left = number % by;
        return left < 0 ? left + by : left;
    }

    private static long commonDivisor(long one, long other) {
        long a = one;
        long b = other;
        // Euclid needs fewer than 100 rounds for any two longs
        for (int round = 0; round < 200 && b != 0; round++) {
            long left = a % b;
            a = b;
            b = left;
        }
        return a;
    }

    private static int commonMultiple(int one, int other) {
        int common = (int) commonDivisor(one, other);
        return common < 1 ? 1 : one / common * other;
    }

    private static long power(long base, int times) {
        long product = 1;
        for (int k = 0; k < times; k++) {
            product *= base;
        }
        return product;
    }

    /** In how many ways k of n can be chosen; n is at most 18, so no step leaves the longs. */
    private static long ways(int n, int k) {
        long ways = 1;
        for (int j = 1; j <= k; j++) {
            ways = ways * (n - k + j) / j;
        }
        return ways;
    }

    /** One LEG: its numbers and its FLIPS, LOST, JUMPS (the marks). */
    private static final class Leg {
        final int[] numbers = new int[SETTINGS];
        final int[] kinds = new int[MOST_MARKS];
        final int[] firsts = new int[MOST_MARKS];
        final int[] lasts = new int[MOST_MARKS];
        int marks;

        Leg() {
            numbers[MANY] = FIRST_MANY;
        }

        void forget() {
            Arrays.fill(numbers, 0);
            numbers[MANY] = FIRST_MANY;
            marks = 0;
        }

        void copyFrom(Leg other) {
            System.arraycopy(other.numbers, 0, numbers, 0, SETTINGS);
            System.arraycopy(other.kinds, 0, kinds, 0, MOST_MARKS);
            System.arraycopy(other.firsts, 0, firsts, 0, MOST_MARKS);
            System.arraycopy(other.lasts, 0, lasts, 0, MOST_MARKS);
            marks = other.marks;
        }

        boolean addMark(int kind, int first, int last) {
            if (marks >= MOST_MARKS) {
                return false;
            }
            kinds[marks] = kind;
            firsts[marks] = first;
            lasts[marks] = last;
            marks++;
            return true;
        }

        int countOf(int kind) {
            int count = 0;
            for (int m = 0; m < marks; m++) {
                if (kinds[m] == kind) {
                    count++;
                }
            }
            return count;
        }

        /** BEHIND at i, of which t is FROM and i (FROM may be another one than this LEG's). */
        int lag(int i, int t) {
            int lag = numbers[DELAY] + Math.floorDiv(numbers[DRIFT] * t, 256);
            for (int m = 0; m < marks; m++) {
                if (firsts[m] <= i && kinds[m] == UP) {
                    lag++;
                } else if (firsts[m] <= i && kinds[m] == DOWN) {
                    lag--;
                }
            }
            return lag;
        }

        boolean loses(int i) {
            for (int m = 0; m < marks; m++) {
                if (kinds[m] == LOSE && firsts[m] <= i && i <= lasts[m]) {
                    return true;
                }
            }
            return false;
        }

        /** 1 if an odd number of FLIPS tell i, else 0. */
        int flipsAt(int i) {
            int flips = 0;
            for (int m = 0; m < marks; m++) {
                if (kinds[m] == FLIP && firsts[m] == i) {
                    flips ^= 1;
                }
            }
            return flips;
        }
    }

    /** All that a text tells: the CODE, LIMIT, both LEGS. Bit k of a row is its k-th CHIP. */
    private static final class Told {
        final int[] lengths = new int[MOST_PARTS];
        final int[] rows = new int[MOST_PARTS];
        final int[] votes = new int[MOST_PARTS];
        final Leg[] legs = new Leg[LEGS];
        int parts;
        int limit = FIRST_LIMIT;

        Told() {
            legs[OUT] = new Leg();
            legs[BACK] = new Leg();
        }

        void forget() {
            parts = 0;
            limit = FIRST_LIMIT;
            legs[OUT].forget();
            legs[BACK].forget();
        }

        void copyFrom(Told other) {
            System.arraycopy(other.lengths, 0, lengths, 0, MOST_PARTS);
            System.arraycopy(other.rows, 0, rows, 0, MOST_PARTS);
            System.arraycopy(other.votes, 0, votes, 0, MOST_PARTS);
            legs[OUT].copyFrom(other.legs[OUT]);
            legs[BACK].copyFrom(other.legs[BACK]);
            parts = other.parts;
            limit = other.limit;
        }

        void addPart(int row, int length, int number) {
            if (parts < MOST_PARTS) {
                rows[parts] = row;
                lengths[parts] = length;
                votes[parts] = number;
                parts++;
            }
        }

        boolean hasPart(int p) {
            return p >= 0 && p < parts;
        }

        boolean hasPlace(int p, int place) {
            return place >= 0 && place < lengths[p];
        }

        int allParts() {
            return (1 << parts) - 1;
        }

        /** The least number that all LENGTHS of a set of PARTS go into. */
        int periodOf(int set) {
            int period = 1;
            for (int p = 0; p < parts; p++) {
                if ((set >> p & 1) == 1) {
                    period = commonMultiple(period, lengths[p]);
                }
            }
            return period;
        }

        int votesOf(int set) {
            int sum = 0;
            for (int p = 0; p < parts; p++) {
                if ((set >> p & 1) == 1) {
                    sum += votes[p];
                }
            }
            return sum;
        }

        int chipOf(int p, int t) {
            return rows[p] >> rest(t, lengths[p]) & 1;
        }

        /**
         * Who wins, were the VOTE of one PART (or of NONE) another one: bit s is the CHIP of the
         * CODE where just the PARTS of set s have YES. There are at most 32 sets, so one int does.
         */
        int election(int changed, int number) {
            int more = hasPart(changed) ? number - votes[changed] : 0;
            int all = votesOf(allParts()) + more;
            int winners = 0;
            for (int set = 0; set <= allParts(); set++) {
                int yes = votesOf(set);
                if (hasPart(changed) && (set >> changed & 1) == 1) {
                    yes += more;
                }
                boolean wins = 2 * yes == all ? (set & 1) == 1 : 2 * yes > all;
                if (wins) {
                    winners |= 1 << set;
                }
            }
            return winners;
        }

        int codeChip(int t, int election) {
            int set = 0;
            for (int p = 0; p < parts; p++) {
                set |= (rows[p] >> rest(t, lengths[p]) & 1) << p;
            }
            return election >>> set & 1;
        }
    }

    /** All that there is: what is told, THE TEXT, the FAULT. */
    private static final class Page {
        final Told told = new Told();
        final byte[] text = new byte[MOST_BYTES];
        int bytes;
        int fault;
        int place = NONE;

        void copyFrom(Page other) {
            told.copyFrom(other.told);
            System.arraycopy(other.text, 0, text, 0, other.bytes);
            bytes = other.bytes;
            fault = other.fault;
            place = other.place;
        }
    }

    /** Reads THE TEXT into a draft of its own, so that a FAULT leaves all as it was. */
    private static final class Reader {
        private static final int END = 0;
        private static final int WORD = 1;
        private static final int NUMBER = 2;
        private static final int SIGN = 3;
        private static final int NO_TOKEN = 4;
        private static final int MOST_LETTERS = 13;
        private static final int MOST_DIGITS = 4;
        /** The word shrink, where the other words tell a setting by its number. */
        private static final int SHRINK = SETTINGS;

        final Told told = new Told();
        final byte[] text;
        int fault;
        int place;
        int length;
        /** The token at hand: its kind, its first byte, the byte behind it, its number. */
        int kind;
        int start;
        int at;
        int value;

        Reader(byte[] text) {
            this.text = text;
        }

        void readAll(int bytes) {
            told.forget();
            fault = 0;
            place = NONE;
            length = bytes;
            at = 0;
            boolean more = true;
            // each round takes a byte or more, or ends
            for (int round = 0; round <= MOST_BYTES && more; round++) {
                step();
                more = kind != END && readStatement();
            }
        }

        boolean readStatement() {
            if (isWord("part")) {
                return readPart();
            }
            if (isWord("limit")) {
                if (!readNumber(1, MOST_LIMIT)) {
                    return false;
                }
                told.limit = value;
                return readSign();
            }
            if (isWord("out")) {
                return readLeg(told.legs[OUT]);
            }
            if (isWord("back")) {
                return readLeg(told.legs[BACK]);
            }
            return refuse();
        }

        boolean readPart() {
            if (told.parts >= MOST_PARTS) {
                note(3);
            }
            step();
            if (!isRow()) {
                return refuse();
            }
            int row = rowBits();
            int rowLength = at - start;
            if (!readNumber(1, MOST_VOTE)) {
                return false;
            }
            told.addPart(row, rowLength, value);
            return readSign();
        }

        boolean readLeg(Leg leg) {
            step();
            int what = settingWord();
            if (what != NONE) {
                return readSetting(leg, what);
            }
            int mark = markWord();
            if (mark != NONE) {
                return readMark(leg, mark);
            }
            return refuse();
        }

        boolean readSetting(Leg leg, int what) {
            int setting = what == SHRINK ? DRIFT : what;
            int least = setting == MANY ? 1 : 0;
            if (!readNumber(least, MOST_SETTING[setting])) {
                return false;
            }
            leg.numbers[setting] = what == SHRINK ? -value : value;
            return readSign();
        }

        boolean readMark(Leg leg, int mark) {
            if (leg.marks >= MOST_MARKS) {
                note(4);
            }
            if (!readNumber(0, MOST_MANY - 1)) {
                return false;
            }
            int first = value;
            if (mark == LOSE && !readNumber(first, MOST_MANY - 1)) {
                return false;
            }
            leg.addMark(mark, first, value);
            return readSign();
        }

        int settingWord() {
            if (isWord("delay")) {
                return DELAY;
            }
            if (isWord("drift")) {
                return DRIFT;
            }
            if (isWord("shrink")) {
                return SHRINK;
            }
            if (isWord("from")) {
                return FROM;
            }
            if (isWord("many")) {
                return MANY;
            }
            if (isWord("noise")) {
                return NOISE;
            }
            return isWord("seed") ? SEED : NONE;
        }

        int markWord() {
            if (isWord("flip")) {
                return FLIP;
            }
            if (isWord("slip")) {
                return UP;
            }
            if (isWord("skip")) {
                return DOWN;
            }
            return isWord("lose") ? LOSE : NONE;
        }

        /** False only if no NUMBER stands there; one that can not be is noted. */
        boolean readNumber(int least, int most) {
            step();
            if (kind != NUMBER) {
                return refuse();
            }
            if (value < least || value > most) {
                note(2);
            }
            return true;
        }

        boolean readSign() {
            step();
            return kind == SIGN || refuse();
        }

        /** FAULT 1 goes ahead of all others, wherever they are. */
        boolean refuse() {
            fault = 1;
            place = start;
            return false;
        }

        /** Tokens come by rising place, so the first FAULT that is noted stays. */
        void note(int number) {
            if (fault == 0) {
                fault = number;
                place = start;
            }
        }

        void step() {
            while (at < length && isBlank(text[at])) {
                at++;
            }
            start = at;
            value = 0;
            if (at >= length) {
                kind = END;
            } else if (isLetter(text[at])) {
                while (at < length && isLetter(text[at])) {
                    at++;
                }
                kind = at - start <= MOST_LETTERS ? WORD : NO_TOKEN;
            } else if (isDigit(text[at])) {
                while (at < length && isDigit(text[at])) {
                    value = value * 10 + (text[at] - '0');
                    at++;
                }
                kind = at - start <= MOST_DIGITS ? NUMBER : NO_TOKEN;
            } else {
                kind = text[at] == ';' ? SIGN : NO_TOKEN;
                at++;
            }
        }

        boolean isWord(String word) {
            if (kind != WORD || at - start != word.length()) {
                return false;
            }
            for (int k = 0; k < word.length(); k++) {
                if (text[start + k] != word.charAt(k)) {
                    return false;
                }
            }
            return true;
        }

        boolean isRow() {
            if (kind != WORD || at - start < LEAST_LENGTH) {
                return false;
            }
            for (int k = start; k < at; k++) {
                if (text[k] != 'x' && text[k] != 'o') {
                    return false;
                }
            }
            return true;
        }

        int rowBits() {
            int bits = 0;
            for (int k = start; k < at; k++) {
                if (text[k] == 'x') {
                    bits |= 1 << (k - start);
                }
            }
            return bits;
        }

        static boolean isBlank(int sign) {
            return sign == 32 || sign == 10;
        }

        static boolean isLetter(int sign) {
            return sign >= 'a' && sign <= 'z';
        }

        static boolean isDigit(int sign) {
            return sign >= '0' && sign <= '9';
        }
    }

    /** What is HEARD of a LEG, its MATCHES and what they are JOINED to; made anew by each question. */
    private static final class Ear {
        final Told told;
        final int[] heard = new int[MOST_MANY];
        final int[][] matches = new int[MOST_PARTS][MOST_LENGTH];
        final int[] bests = new int[MOST_PARTS];
        final int[] sums = new int[MOST_LENGTH];
        int from;
        int many;
        /** By how much what is SENT is late: 0 of OUT, DISTANCE of OUT of BACK (NONE without). */
        int late;
        /** DISTANCE (NONE without), WRONG, STEP, and how many sets are as few as those WRONG. */
        int distance;
        int wrong;
        int step;
        int sets;

        Ear(Told told) {
            this.told = told;
        }

        void listen(int leg) {
            int[] numbers = told.legs[leg].numbers;
            listenAs(leg, numbers[FROM], numbers[MANY], told.election(NONE, 0));
        }

        /** As if FROM and MANY of the LEG, and who wins the votes (in both LEGS), were these. */
        void listenAs(int leg, int otherFrom, int otherMany, int election) {
            late = 0;
            if (leg == BACK) {
                int[] numbers = told.legs[OUT].numbers;
                hear(told.legs[OUT], numbers[FROM], numbers[MANY], election);
                late = distance;
            }
            hear(told.legs[leg], otherFrom, otherMany, election);
        }

        void hear(Leg leg, int ownFrom, int ownMany, int election) {
            from = ownFrom;
            many = ownMany;
            hearChips(leg, election);
            for (int p = 0; p < told.parts; p++) {
                matchAll(p);
            }
            pickBests();
            settle();
        }

        void hearChips(Leg leg, int election) {
            int noise = leg.numbers[NOISE];
            long x = leg.numbers[SEED];
            for (int i = 0; i < many; i++) {
                x = (x * 1103515245L + 12345L) % 2147483648L;
                int turn = leg.flipsAt(i) ^ (x / 65536L % 100L < noise ? 1 : 0);
                int t = from + i;
                int number = late == NONE ? 0 : t - leg.lag(i, t) - late;
                heard[i] = leg.loses(i) ? NOTHING : told.codeChip(number, election) ^ turn;
            }
        }

        int countOf(int what) {
            int count = 0;
            for (int i = 0; i < many; i++) {
                if (heard[i] == what) {
                    count++;
                }
            }
            return count;
        }

        int sign(int i) {
            return heard[i] == NOTHING ? 0 : heard[i] == YES ? 1 : -1;
        }

        /** All i of like remainder meet the same CHIP, so they are summed up ahead. */
        void matchAll(int p) {
            int length = told.lengths[p];
            Arrays.fill(sums, 0);
            int at = rest(from, length);
            for (int i = 0; i < many; i++) {
                sums[at] += sign(i);
                at = at + 1 < length ? at + 1 : 0;
            }
            Arrays.fill(matches[p], 0);
            for (int r = 0; r < length; r++) {
                addMatches(matches[p], p, r, sums[r]);
            }
        }

        void forgetMatches() {
            for (int p = 0; p < told.parts; p++) {
                Arrays.fill(matches[p], 0);
            }
        }

        void matchOne(int i) {
            for (int p = 0; p < told.parts; p++) {
                addMatches(matches[p], p, from + i, sign(i));
            }
        }

        /** To the counts of all PLACES: so many more YES than NO that are HEARD at t. */
        void addMatches(int[] counts, int p, int t, int sign) {
            for (int place = 0; place < told.lengths[p]; place++) {
                counts[place] += told.chipOf(p, t - place) == YES ? sign : -sign;
            }
        }

        void pickBests() {
            for (int p = 0; p < told.parts; p++) {
                bests[p] = greatest(matches[p], told.lengths[p], NONE);
            }
        }

        /** The least PLACE with the greatest count, but for one PLACE that is left out. */
        static int greatest(int[] counts, int length, int but) {
            int best = but == 0 ? 1 : 0;
            for (int place = best + 1; place < length; place++) {
                if (place != but && counts[place] > counts[best]) {
                    best = place;
                }
            }
            return best;
        }

        int bestMatch(int p) {
            return matches[p][bests[p]];
        }

        int edge(int p) {
            int second = greatest(matches[p], told.lengths[p], bests[p]);
            return bestMatch(p) - matches[p][second];
        }

        int alike(int p) {
            int count = 0;
            for (int place = 0; place < told.lengths[p]; place++) {
                if (matches[p][place] == bestMatch(p)) {
                    count++;
                }
            }
            return count;
        }

        /** How many have to be turned over for another BEST; NONE if no number of them does it. */
        int fewestTurns(int p) {
            int fewest = NONE;
            for (int place = 0; place < told.lengths[p]; place++) {
                // one that is turned takes 2 from BEST and gives 2 to the other PLACE; a lesser
                // PLACE wins when they are alike, a greater one must be ahead
                int less = bestMatch(p) - matches[p][place];
                int turns = place < bests[p] ? (less + 3) / 4 : less / 4 + 1;
                boolean first = fewest == NONE || turns < fewest;
                if (place != bests[p] && first && turns <= forBestAlone(p, place)) {
                    fewest = turns;
                }
            }
            return fewest;
        }

        /** At how many i what is HEARD is like BEST, but unlike the other PLACE. */
        int forBestAlone(int p, int place) {
            int count = 0;
            for (int i = 0; i < many; i++) {
                int t = from + i;
                if (heard[i] == told.chipOf(p, t - bests[p])
                        && heard[i] == 1 - told.chipOf(p, t - place)) {
                    count++;
                }
            }
            return count;
        }

        /** What a set of PARTS is JOINED to, or NONE. */
        int join(int set) {
            int number = 0;
            int period = 1;
            for (int p = 0; p < told.parts; p++) {
                if ((set >> p & 1) == 1) {
                    int length = told.lengths[p];
                    int tries = 0;
                    while (tries < length && rest(number, length) != bests[p]) {
                        number += period;
                        tries++;
                    }
                    if (tries >= length) {
                        return NONE;
                    }
                    period = commonMultiple(period, length);
                }
            }
            return number;
        }

        /** Finds WRONG, and with it DISTANCE, STEP and how many sets there are. */
        void settle() {
            distance = NONE;
            wrong = 0;
            step = 0;
            sets = 0;
            int all = told.allParts();
            int mostWrong = Math.max(told.parts - 1, 0);
            for (int few = 0; few <= mostWrong && sets == 0; few++) {
                for (int set = 0; set <= all; set++) {
                    int number = Integer.bitCount(set) == few ? join(all & ~set) : NONE;
                    if (number != NONE && number < told.limit) {
                        if (sets == 0) {
                            distance = number;
                            wrong = set;
                        }
                        sets++;
                    }
                }
            }
            if (sets > 0) {
                step = told.periodOf(all & ~wrong);
            }
        }

        int guesses() {
            if (distance == NONE || step < 1) {
                return 0;
            }
            return (told.limit - 1 - distance) / step + 1;
        }

        int finding(int what) {
            boolean there = distance != NONE;
            switch (what) {
                case 0:
                    return distance;
                case 1:
                    return there ? wrong : NONE;
                case 2:
                    return there ? step : NONE;
                case 3:
                    return guesses();
                case 4:
                    return there && wrong == 0 ? 1 : 0;
                case 5:
                    return sets;
                default:
                    return NONE;
            }
        }
    }

    /** Where a PART is BROKEN, by what the ear has HEARD. */
    private static final class Split {
        final Ear ear;
        final int[] ahead = new int[MOST_LENGTH];
        final int[] behind = new int[MOST_LENGTH];
        int at;
        int placeAhead;
        int placeBehind;
        int together;

        Split(Ear ear) {
            this.ear = ear;
        }

        void find(int p) {
            int length = ear.told.lengths[p];
            Arrays.fill(ahead, 0);
            at = 0;
            for (int i = 1; i < ear.many; i++) {
                ear.addMatches(ahead, p, ear.from + i - 1, ear.sign(i - 1));
                for (int place = 0; place < length; place++) {
                    behind[place] = ear.matches[p][place] - ahead[place];
                }
                tryAt(i, length);
            }
        }

        void tryAt(int i, int length) {
            int first = Ear.greatest(behind, length, NONE);
            int second = Ear.greatest(behind, length, first);
            for (int place = 0; place < length; place++) {
                int other = place == first ? second : first;
                int sum = ahead[place] + behind[other];
                if (at == 0 || sum > together) {
                    at = i;
                    placeAhead = place;
                    placeBehind = other;
                    together = sum;
                }
            }
        }
    }

    /** Numbers below LIMIT by their SCORE, by what the ear has HEARD. */
    private static final class Ranking {
        final Ear ear;
        final int[] numbers = new int[MOST_LIKELY];
        final int[] scores = new int[MOST_LIKELY];
        /** The remainders by the LENGTHS of the number at hand. */
        final int[] rests = new int[MOST_PARTS];

        Ranking(Ear ear) {
            this.ear = ear;
        }

        /** The first few that are LIKELY; few is 1 to 20 and no more than LIMIT. */
        void rankFirst(int few) {
            Arrays.fill(rests, 0);
            int ranked = 0;
            for (int number = 0; number < ear.told.limit; number++) {
                int score = nextScore();
                if (ranked < few || score > scores[ranked - 1]) {
                    ranked = Math.min(ranked + 1, few);
                    putIn(number, score, ranked - 1);
                }
            }
        }

        /** Numbers come rising, so one goes behind all that are alike; that at last may go. */
        void putIn(int number, int score, int last) {
            int k = last;
            while (k > 0 && scores[k - 1] < score) {
                scores[k] = scores[k - 1];
                numbers[k] = numbers[k - 1];
                k--;
            }
            scores[k] = score;
            numbers[k] = number;
        }

        int placeOf(int asked) {
            for (int p = 0; p < ear.told.parts; p++) {
                rests[p] = rest(asked, ear.told.lengths[p]);
            }
            int own = nextScore();
            Arrays.fill(rests, 0);
            int place = 0;
            for (int number = 0; number < ear.told.limit; number++) {
                int score = nextScore();
                if (score > own || score == own && number < asked) {
                    place++;
                }
            }
            return place;
        }

        /** The SCORE of the number at hand; then the next number is at hand. */
        int nextScore() {
            Told told = ear.told;
            int score = 0;
            for (int p = 0; p < told.parts; p++) {
                score += ear.matches[p][rests[p]] * told.votes[p];
                rests[p] = rests[p] + 1 < told.lengths[p] ? rests[p] + 1 : 0;
            }
            return score;
        }
    }

    /**
     * How often, of all t below PERIOD, just the rows of a set have YES. Rows whose LENGTHS share
     * no factor meet in every way alike often, so only those that share one are gone through (360
     * t at most) and the rest is multiplied; PERIOD itself may be 90090.
     */
    private static final class Tally {
        /** The PARTS and one row more that is held against the CODE. */
        private static final int MOST_ROWS = MOST_PARTS + 1;
        private static final int SETS = 1 << MOST_ROWS;

        final int[] lengths = new int[MOST_ROWS];
        final int[] bits = new int[MOST_ROWS];
        final int[] counts = new int[SETS];
        final int[] kinCounts = new int[SETS];
        final int[] mixed = new int[SETS];
        int parts;
        int rows;

        void takeCode(Told told) {
            parts = told.parts;
            rows = told.parts;
            System.arraycopy(told.lengths, 0, lengths, 0, MOST_PARTS);
            System.arraycopy(told.rows, 0, bits, 0, MOST_PARTS);
        }

        /** Only behind takeCode(), so there is room. */
        int addRow(int length, int row) {
            lengths[parts] = length;
            bits[parts] = row;
            rows = parts + 1;
            return parts;
        }

        void countAll() {
            Arrays.fill(counts, 0);
            counts[0] = 1;
            int done = 0;
            for (int row = 0; row < rows; row++) {
                if ((done >> row & 1) == 0) {
                    int kin = kinOf(row);
                    countKin(kin);
                    mix();
                    done |= kin;
                }
            }
        }

        /** The set of all rows that share a factor with a row, or with one that does, and so on. */
        int kinOf(int row) {
            int kin = 1 << row;
            int period = lengths[row];
            for (int round = 0; round < rows; round++) {
                for (int other = 0; other < rows; other++) {
                    if (commonDivisor(period, lengths[other]) > 1) {
                        kin |= 1 << other;
                        period = commonMultiple(period, lengths[other]);
                    }
                }
            }
            return kin;
        }

        void countKin(int kin) {
            int period = 1;
            for (int row = 0; row < rows; row++) {
                if ((kin >> row & 1) == 1) {
                    period = commonMultiple(period, lengths[row]);
                }
            }
            Arrays.fill(kinCounts, 0);
            for (int t = 0; t < period; t++) {
                kinCounts[yesAt(t, kin)]++;
            }
        }

        int yesAt(int t, int kin) {
            int set = 0;
            for (int row = 0; row < rows; row++) {
                if ((kin >> row & 1) == 1) {
                    set |= (bits[row] >> rest(t, lengths[row]) & 1) << row;
                }
            }
            return set;
        }

        void mix() {
            Arrays.fill(mixed, 0);
            for (int set = 0; set < SETS; set++) {
                for (int kin = 0; kin < SETS && counts[set] != 0; kin++) {
                    mixed[set | kin] += counts[set] * kinCounts[kin];
                }
            }
            System.arraycopy(mixed, 0, counts, 0, SETS);
        }

        /** How much more often the CODE is like a row than unlike it. */
        int fullOf(int row, int election) {
            int full = 0;
            int codeSets = (1 << parts) - 1;
            for (int set = 0; set < SETS; set++) {
                int sent = election >>> (set & codeSets) & 1;
                full += sent == (set >> row & 1) ? counts[set] : -counts[set];
            }
            return full;
        }

        int leastFull(int election) {
            int least = fullOf(0, election);
            for (int p = 1; p < parts; p++) {
                least = Math.min(least, fullOf(p, election));
            }
            return least;
        }
    }
}
