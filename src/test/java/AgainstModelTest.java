import java.math.BigInteger;
import java.util.ArrayList;
import java.util.Arrays;
import java.util.Comparator;
import java.util.List;
import java.util.NoSuchElementException;
import java.util.Random;
import java.util.TreeSet;
import java.util.regex.Matcher;
import java.util.regex.Pattern;

/**
 * Random runs of calls (of fixed seeds) on the program and on a model that does what the document
 * says in the plainest way, by trying everything. Each answer must be the same.
 */
public final class AgainstModelTest {
    private static int wrong = 0;
    private static long calls = 0;

    public static void main(String[] args) {
        int runs = args.length > 0 ? Integer.parseInt(args[0]) : 1200;
        int first = args.length > 1 ? Integer.parseInt(args[1]) : 1;
        for (int seed = first; seed < first + runs && wrong < 20; seed++) {
            new Run(seed).go();
        }
        System.out.println(calls + " calls, " + wrong + " answers are not the model's");
        if (wrong != 0) {
            System.exit(1);
        }
    }

    /** One run: the same calls on both, drawn so that most are sensible and some are not. */
    private static final class Run {
        static final String STRANGE = ";xoa1 \n\t\r-Z\u00ff@[`{/:";

        final int seed;
        final Random random;
        final RangeCodes codes = new RangeCodes();
        Model model = new Model();
        final Model[] images = new Model[3];
        final List<String> log = new ArrayList<>();

        Run(int seed) {
            this.seed = seed;
            this.random = new Random(seed * 7919L + 17);
        }

        void go() {
            int count = 20 + random.nextInt(60);
            tell(text());
            for (int k = 0; k < count && wrong < 20; k++) {
                step();
            }
        }

        void due(String call, long got, long want) {
            calls++;
            log.add(call + " = " + want);
            if (got != want) {
                wrong++;
                System.out.println("run " + seed + ": " + call + " answered " + got + ", the model " + want);
                System.out.println("  behind " + log);
            }
        }

        void tell(String text) {
            for (int at = 0; at < text.length(); ) {
                int size = Math.min(1 + random.nextInt(8), text.length() - at);
                if (random.nextInt(4) > 0) {
                    size = Math.min(8, text.length() - at);
                }
                write(text.substring(at, at + size));
                at += size;
            }
            due("tune()", codes.tune(), model.tune());
            due("fault(false)", codes.fault(false), model.fault);
            due("fault(true)", codes.fault(true), model.place);
        }

        void write(String bytes) {
            long eight = 0;
            for (int k = 0; k < 8; k++) {
                eight = eight << 8 | (k < bytes.length() ? bytes.charAt(k) & 255 : 0);
            }
            if (bytes.length() < 7 && random.nextInt(3) == 0) {
                eight |= random.nextInt(256);
            }
            due("write(" + eight + ")", codes.write(eight), model.write(eight));
        }

        int among(int... numbers) {
            return numbers[random.nextInt(numbers.length)];
        }

        int odd() {
            return among(-1, -2, Integer.MIN_VALUE, Integer.MAX_VALUE, 5, 6, 13, 200, 10000, 31, 32, 1 << 30);
        }

        int legNumber() {
            return random.nextInt(25) == 0 ? among(-1, 2, Integer.MIN_VALUE, Integer.MAX_VALUE) : random.nextInt(2);
        }

        int partNumber() {
            return random.nextInt(20) == 0 || model.rows.isEmpty() ? odd() : random.nextInt(model.rows.size());
        }

        int placeNumber(int part) {
            if (random.nextInt(15) == 0 || part < 0 || part >= model.rows.size()) {
                return odd();
            }
            return random.nextInt(model.rows.get(part).length() + 1);
        }

        String row() {
            int length = among(2, 3, 4, 5, 6, 7, 8, 9, 10, 11, 12, 13, 2, 3, 5, 7, 11, 13);
            StringBuilder row = new StringBuilder();
            int kind = random.nextInt(8);
            for (int k = 0; k < length; k++) {
                row.append(kind == 0 ? 'x' : kind == 1 ? 'o' : random.nextBoolean() ? 'x' : 'o');
            }
            return row.toString();
        }

        String blank() {
            return among(0, 0, 0, 1) == 0 ? " " : among(0, 1) == 0 ? "\n" : "  \n ";
        }

        String gap() {
            return random.nextInt(4) == 0 ? blank() : "";
        }

        int bad(int often, int good, int... others) {
            return random.nextInt(often) == 0 ? among(others) : good;
        }

        String statement(int often) {
            String leg = random.nextBoolean() ? "out" : "back";
            String head = leg + blank();
            switch (random.nextInt(16)) {
                case 0: case 1: case 2:
                    return "part" + blank() + row() + gap() + bad(often, 1 + random.nextInt(random.nextInt(3) == 0 ? 9 : 2), 0, 10, 9999);
                case 3:
                    return "limit" + gap() + bad(often, 1 + random.nextInt(among(3, 40, 500, 9999)), 0, 1, 9999);
                case 4: case 5:
                    return head + "delay" + gap() + random.nextInt(among(10, 200, 10000));
                case 6:
                    return head + "drift" + gap() + bad(often, random.nextInt(65), 65, 100);
                case 7:
                    return head + "shrink" + gap() + bad(often, random.nextInt(65), 65, 9999);
                case 8:
                    return head + "from" + gap() + random.nextInt(among(10, 10000));
                case 9: case 10:
                    return head + "many" + gap() + bad(often, 1 + random.nextInt(among(3, 20, 200)), 0, 201);
                case 11:
                    return head + "flip" + gap() + bad(often, random.nextInt(among(10, 200)), 200);
                case 12:
                    int from = random.nextInt(among(10, 200));
                    int to = from + random.nextInt(among(2, 10));
                    return head + "lose" + gap() + bad(often, from, 200) + blank() + bad(often, Math.min(199, to), from - 1 < 0 ? 200 : from - 1, 200);
                case 13:
                    return head + "slip" + gap() + bad(often, random.nextInt(among(10, 200)), 200);
                case 14:
                    return head + "skip" + gap() + bad(often, random.nextInt(among(10, 200)), 250);
                default:
                    return random.nextBoolean() ? head + "noise" + gap() + bad(often, random.nextInt(among(20, 101)), 101, 999)
                        : head + "seed" + gap() + random.nextInt(10000);
            }
        }

        String text() {
            StringBuilder text = new StringBuilder(gap());
            int often = random.nextInt(6) == 0 ? 6 : 1000000;
            int parts = random.nextInt(20) == 0 ? 6 : random.nextInt(5);
            for (int k = 0; k < parts; k++) {
                text.append("part ").append(row()).append(blank()).append(1 + random.nextInt(3)).append(gap()).append(';').append(gap());
            }
            int more = random.nextInt(random.nextInt(6) == 0 ? 40 : 8);
            for (int k = 0; k < more; k++) {
                text.append(statement(often)).append(gap()).append(';').append(gap());
            }
            if (random.nextInt(8) == 0) {
                spoil(text);
            }
            return text.toString();
        }

        void spoil(StringBuilder text) {
            int times = 1 + random.nextInt(2);
            for (int k = 0; k < times && text.length() > 0; k++) {
                int at = random.nextInt(text.length());
                switch (random.nextInt(4)) {
                    case 0:
                        text.deleteCharAt(at);
                        break;
                    case 1:
                        text.insert(at, STRANGE.charAt(random.nextInt(STRANGE.length())));
                        break;
                    case 2:
                        text.setLength(at);
                        break;
                    default:
                        text.insert(at, random.nextBoolean() ? "12345" : "abcdefghijklmn");
                        break;
                }
            }
        }

        void step() {
            int leg = legNumber();
            int part = partNumber();
            switch (random.nextInt(48)) {
                case 0:
                    if (random.nextInt(3) == 0) {
                        tell(text());
                    }
                    break;
                case 1: {
                    int what = random.nextInt(12) == 0 ? odd() : random.nextInt(6);
                    int number = random.nextInt(8) == 0 ? odd() : random.nextInt(among(2, 60, 101, 201, 10000)) - (what == 1 ? 30 : 0);
                    if (random.nextInt(8) == 0) {
                        number = among(0, -64, 64, -65, 65, 1, 200, 201, 100, 101, 9999, 10000);
                    }
                    due("set(" + leg + "," + what + "," + number + ")", bit(codes.set(leg, what, number)), bit(model.set(leg, what, number)));
                    break;
                }
                case 2: {
                    int number = random.nextInt(6) == 0 ? odd() : random.nextInt(11);
                    due("vote(" + part + "," + number + ")", bit(codes.vote(part, number)), bit(model.vote(part, number)));
                    break;
                }
                case 3: {
                    int number = random.nextInt(6) == 0 ? odd() : random.nextInt(among(4, 30, 2000, 10001));
                    due("limit(" + number + ")", bit(codes.limit(number)), bit(model.limit(number)));
                    break;
                }
                case 4: case 5: {
                    int kind = random.nextInt(10) == 0 ? among(-1, 3, 4) : random.nextInt(3);
                    int i = random.nextInt(10) == 0 ? odd() : random.nextInt(among(5, 40, 200));
                    due("mark(" + leg + "," + kind + "," + i + ")", codes.mark(leg, kind, i), model.mark(leg, kind, i));
                    break;
                }
                case 6:
                    if (random.nextInt(3) == 0) {
                        due("clean(" + leg + ")", codes.clean(leg), model.clean(leg));
                    }
                    break;
                case 7: {
                    int by = placeNumber(part);
                    due("turn(" + part + "," + by + ")", bit(codes.turn(part, by)), bit(model.turn(part, by)));
                    break;
                }
                case 8: {
                    int other = partNumber();
                    due("swap(" + part + "," + other + ")", bit(codes.swap(part, other)), bit(model.swap(part, other)));
                    break;
                }
                case 9: {
                    int what = random.nextInt(5) == 0 ? odd() : random.nextInt(2);
                    due("enough(" + what + ")", codes.enough(what), model.enough(what));
                    break;
                }
                case 10: {
                    boolean least = random.nextBoolean();
                    if (model.period() < 5000 || random.nextInt(10) == 0) {
                        due("better(" + part + "," + least + ")", codes.better(part, least), model.better(part, least));
                    }
                    break;
                }
                case 11: {
                    int what = random.nextInt(5) == 0 ? odd() : random.nextInt(5);
                    due("code(" + what + ")", codes.code(what), model.code(what));
                    break;
                }
                case 12: case 13: {
                    int what = random.nextInt(10) == 0 ? odd() : random.nextBoolean() ? random.nextInt(4) : 9 + random.nextInt(15);
                    due("part(" + part + "," + what + ")", partOf(part, what), model.part(part, what));
                    break;
                }
                case 14: {
                    int t = random.nextInt(3) == 0 ? random.nextInt() : random.nextInt(200) - 100;
                    due("chip(" + t + ")", codes.chip(t), model.chip(t));
                    break;
                }
                case 15: {
                    int place = placeNumber(part);
                    due("full(" + part + "," + place + ")", codes.full(part, place), model.full(part, place));
                    break;
                }
                default:
                    question(leg, part);
                    break;
            }
        }

        long partOf(int part, int what) {
            try {
                return codes.part(part, what);
            } catch (NoSuchElementException none) {
                return -77;
            }
        }

        void question(int leg, int part) {
            switch (random.nextInt(26)) {
                case 0: {
                    int what = random.nextInt(10) == 0 ? odd() : random.nextInt(12);
                    due("leg(" + leg + "," + what + ")", codes.leg(leg, what), model.leg(leg, what));
                    break;
                }
                case 1: case 2: {
                    int i = random.nextInt(10) == 0 ? odd() : random.nextInt(among(5, 40, 200));
                    due("heard(" + leg + "," + i + ")", codes.heard(leg, i), model.heard(leg, i));
                    due("behind(" + leg + "," + i + ")", codes.behind(leg, i), model.behind(leg, i));
                    break;
                }
                case 3: {
                    int place = placeNumber(part);
                    due("match(" + leg + "," + part + "," + place + ")", codes.match(leg, part, place), model.match(leg, part, place));
                    break;
                }
                case 4: {
                    int what = random.nextInt(10) == 0 ? odd() : random.nextInt(5);
                    due("best(" + leg + "," + part + "," + what + ")", codes.best(leg, part, what), model.best(leg, part, what));
                    break;
                }
                case 5: case 6:
                    due("fragile(" + leg + "," + part + ")", codes.fragile(leg, part), model.fragile(leg, part));
                    break;
                case 7:
                    due("right(" + leg + ")", codes.right(leg), model.right(leg));
                    break;
                case 8: {
                    int parts = random.nextInt(10) == 0 ? odd() : random.nextInt(1 << model.rows.size());
                    due("joined(" + leg + "," + parts + ")", codes.joined(leg, parts), model.joined(leg, parts));
                    break;
                }
                case 9: case 10: {
                    int what = random.nextInt(10) == 0 ? odd() : random.nextInt(7);
                    due("found(" + leg + "," + what + ")", codes.found(leg, what), model.found(leg, what));
                    break;
                }
                case 11: {
                    int k = random.nextInt(10) == 0 ? odd() : random.nextInt(among(2, 10, 1000));
                    due("guess(" + leg + "," + k + ")", codes.guess(leg, k), model.guess(leg, k));
                    break;
                }
                case 12: {
                    int k = random.nextInt(10) == 0 ? odd() : random.nextInt(21);
                    boolean score = random.nextBoolean();
                    due("likely(" + leg + "," + k + "," + score + ")", codes.likely(leg, k, score), model.likely(leg, k, score));
                    break;
                }
                case 13: {
                    int number = random.nextInt(10) == 0 ? odd() : random.nextInt(model.limit + 1);
                    due("rank(" + leg + "," + number + ")", codes.rank(leg, number), model.rank(leg, number));
                    break;
                }
                case 14: case 15: {
                    int what = random.nextInt(10) == 0 ? odd() : random.nextInt(6);
                    due("broken(" + leg + "," + part + "," + what + ")", codes.broken(leg, part, what), model.broken(leg, part, what));
                    break;
                }
                case 16: {
                    int what = random.nextInt(10) == 0 ? odd() : random.nextInt(4);
                    due("both(" + what + ")", codes.both(what), model.both(what));
                    break;
                }
                case 17: {
                    int n = random.nextInt(21) - 1;
                    int p = random.nextInt(13) - 1;
                    int m = random.nextInt(21) - 1;
                    boolean under = random.nextBoolean();
                    due("chance(" + n + "," + p + "," + m + "," + under + ")", codes.chance(n, p, m, under), model.chance(n, p, m, under));
                    break;
                }
                case 18: {
                    int n = random.nextInt(21) - 1;
                    int q = random.nextInt(5) == 0 ? among(-1, 0, 1, 999, 1000, 1001, odd()) : random.nextInt(1001);
                    due("bar(" + n + "," + q + ")", codes.bar(n, q), model.bar(n, q));
                    break;
                }
                case 19: {
                    long unit = random.nextBoolean() ? random.nextInt(1000) - 500 : random.nextLong() / among(1, 2, 10, 300, 1000);
                    due("metres(" + leg + "," + unit + ")", codes.metres(leg, unit), model.metres(leg, unit));
                    break;
                }
                case 20: {
                    int n = random.nextInt(10) == 0 ? odd() : random.nextInt(202);
                    int what = random.nextInt(10) == 0 ? odd() : random.nextInt(7);
                    due("longer(" + leg + "," + n + "," + what + ")", codes.longer(leg, n, what), model.longer(leg, n, what));
                    break;
                }
                case 21: {
                    int number = random.nextInt(6) == 0 ? odd() : random.nextBoolean() ? model.found(leg, 0) : random.nextInt(among(5, 30));
                    due("needs(" + leg + "," + number + ")", codes.needs(leg, number), model.needs(leg, number));
                    break;
                }
                case 22: {
                    int step = random.nextInt(10) == 0 ? among(0, -1, 201, odd()) : 1 + random.nextInt(200);
                    int k = random.nextInt(10) == 0 ? among(-1, 21, odd()) : random.nextInt(21);
                    due("track(" + leg + "," + step + "," + k + ")", codes.track(leg, step, k), model.track(leg, step, k));
                    break;
                }
                case 23:
                    due("silent(" + leg + "," + part + ")", codes.silent(leg, part), model.silent(leg, part));
                    break;
                case 24: {
                    int k = random.nextInt(6) == 0 ? odd() : random.nextInt(3);
                    boolean can = k >= 0 && k < 3;
                    if (can) {
                        images[k] = model.copy();
                    }
                    due("image(" + k + ")", bit(codes.image(k)), bit(can));
                    break;
                }
                default: {
                    int k = random.nextInt(6) == 0 ? odd() : random.nextInt(3);
                    boolean can = k >= 0 && k < 3 && images[k] != null;
                    if (can) {
                        model = images[k].copy();
                    }
                    due("again(" + k + ")", bit(codes.again(k)), bit(can));
                    due("code(4)", codes.code(4), model.code(4));
                    due("fault(false)", codes.fault(false), model.fault);
                    due("fault(true)", codes.fault(true), model.place);
                    break;
                }
            }
        }

        static int bit(boolean answer) {
            return answer ? 1 : 0;
        }
    }

    private static final class ModelLeg {
        int[] numbers = {0, 0, 0, 40, 0, 0};
        List<int[]> marks = new ArrayList<>();

        ModelLeg copy() {
            ModelLeg copy = new ModelLeg();
            copy.numbers = numbers.clone();
            for (int[] mark : marks) {
                copy.marks.add(mark.clone());
            }
            return copy;
        }
    }

    /** What the document says, word by word; rows are texts of x and o. */
    private static final class Model {
        List<String> rows = new ArrayList<>();
        List<Integer> votes = new ArrayList<>();
        int limit = 1000;
        ModelLeg[] legs = {new ModelLeg(), new ModelLeg()};
        String text = "";
        int fault = 0;
        int place = -1;

        Model copy() {
            Model copy = new Model();
            copy.rows = new ArrayList<>(rows);
            copy.votes = new ArrayList<>(votes);
            copy.limit = limit;
            copy.legs = new ModelLeg[] {legs[0].copy(), legs[1].copy()};
            copy.text = text;
            copy.fault = fault;
            copy.place = place;
            return copy;
        }

        int write(long eight) {
            StringBuilder more = new StringBuilder();
            for (int k = 7; k >= 0; k--) {
                int sign = (int) (eight >> (8 * k) & 255);
                if (sign == 0) {
                    break;
                }
                more.append((char) sign);
            }
            if (text.length() + more.length() > 500) {
                return -1;
            }
            text += more;
            return text.length();
        }

        static final String[] FORMS = {
            "part ROW 1-9", "limit 1-9999",
            "LEG delay 0-9999", "LEG drift 0-64", "LEG shrink 0-64", "LEG from 0-9999", "LEG many 1-200",
            "LEG flip 0-199", "LEG lose 0-199 AFTER-199", "LEG slip 0-199", "LEG skip 0-199",
            "LEG noise 0-100", "LEG seed 0-9999",
        };

        static boolean fits(String pattern, String token) {
            switch (pattern) {
                case "ROW":
                    return token.matches("[xo]{2,13}");
                case "LEG":
                    return token.equals("out") || token.equals("back");
                default:
                    return pattern.contains("-") ? token.matches("[0-9]{1,4}") : token.equals(pattern);
            }
        }

        int tune() {
            String read = text;
            text = "";
            Matcher matcher = Pattern.compile("[a-z]+|[0-9]+|[^ \n]", Pattern.DOTALL).matcher(read);
            List<String> tokens = new ArrayList<>();
            List<Integer> places = new ArrayList<>();
            while (matcher.find()) {
                tokens.add(matcher.group());
                places.add(matcher.start());
            }
            places.add(read.length());
            List<List<String>> told = new ArrayList<>();
            List<List<Integer>> toldPlaces = new ArrayList<>();
            int at = 0;
            while (at < tokens.size()) {
                List<String> forms = new ArrayList<>(Arrays.asList(FORMS));
                List<String> one = new ArrayList<>();
                List<Integer> onePlaces = new ArrayList<>();
                for (int word = 0; ; word++) {
                    if (at >= tokens.size()) {
                        return refuse(1, read.length());
                    }
                    String token = tokens.get(at);
                    final int k = word;
                    boolean ends = forms.stream().anyMatch(form -> form.split(" ").length == k);
                    if (ends) {
                        if (!token.equals(";")) {
                            return refuse(1, places.get(at));
                        }
                        at++;
                        break;
                    }
                    forms.removeIf(form -> form.split(" ").length <= k || !fits(form.split(" ")[k], token));
                    if (forms.isEmpty() || token.length() > 13) {
                        return refuse(1, places.get(at));
                    }
                    one.add(token);
                    onePlaces.add(places.get(at));
                    at++;
                }
                told.add(one);
                toldPlaces.add(onePlaces);
            }
            return take(told, toldPlaces);
        }

        int refuse(int number, int where) {
            fault = number;
            place = where;
            return -1;
        }

        int take(List<List<String>> told, List<List<Integer>> places) {
            Model made = new Model();
            TreeSet<Long> faults = new TreeSet<>();
            for (int k = 0; k < told.size(); k++) {
                List<String> one = told.get(k);
                List<Integer> where = places.get(k);
                String word = one.get(0);
                if (word.equals("part")) {
                    int vote = Integer.parseInt(one.get(2));
                    made.rows.add(one.get(1));
                    made.votes.add(vote);
                    if (made.rows.size() > 5) {
                        faults.add(where.get(0) * 10L + 3);
                    }
                    if (vote < 1 || vote > 9) {
                        faults.add(where.get(2) * 10L + 2);
                    }
                } else if (word.equals("limit")) {
                    made.limit = Integer.parseInt(one.get(1));
                    if (made.limit < 1) {
                        faults.add(where.get(1) * 10L + 2);
                    }
                } else {
                    made.takeLeg(made.legs[word.equals("out") ? 0 : 1], one, where, faults);
                }
            }
            if (!faults.isEmpty()) {
                return refuse((int) (faults.first() % 10), (int) (faults.first() / 10));
            }
            rows = made.rows;
            votes = made.votes;
            limit = made.limit;
            legs = made.legs;
            fault = 0;
            place = -1;
            return rows.size();
        }

        void takeLeg(ModelLeg leg, List<String> one, List<Integer> where, TreeSet<Long> faults) {
            int number = Integer.parseInt(one.get(2));
            int least = 0;
            int most = 9999;
            int mark = List.of("flip", "slip", "skip", "lose").indexOf(one.get(1));
            switch (one.get(1)) {
                case "delay": leg.numbers[0] = number; break;
                case "drift": leg.numbers[1] = number; most = 64; break;
                case "shrink": leg.numbers[1] = -number; most = 64; break;
                case "from": leg.numbers[2] = number; break;
                case "many": leg.numbers[3] = number; least = 1; most = 200; break;
                case "noise": leg.numbers[4] = number; most = 100; break;
                case "seed": leg.numbers[5] = number; break;
                default: most = 199; break;
            }
            if (number < least || number > most) {
                faults.add(where.get(2) * 10L + 2);
            }
            if (mark >= 0) {
                int to = mark == 3 ? Integer.parseInt(one.get(3)) : number;
                if (mark == 3 && (to > 199 || to < number)) {
                    faults.add(where.get(3) * 10L + 2);
                }
                leg.marks.add(new int[] {mark, number, to});
                if (leg.marks.size() > 10) {
                    faults.add(where.get(1) * 10L + 4);
                }
            }
        }

        boolean isLeg(int leg) {
            return leg == 0 || leg == 1;
        }

        boolean isPart(int part) {
            return part >= 0 && part < rows.size();
        }

        boolean isPlace(int part, int where) {
            return isPart(part) && where >= 0 && where < rows.get(part).length();
        }

        boolean set(int leg, int what, int number) {
            int[] least = {0, -64, 0, 1, 0, 0};
            int[] most = {9999, 64, 9999, 200, 100, 9999};
            if (!isLeg(leg) || what < 0 || what > 5 || number < least[what] || number > most[what]) {
                return false;
            }
            boolean other = legs[leg].numbers[what] != number;
            legs[leg].numbers[what] = number;
            return other;
        }

        boolean vote(int part, int number) {
            if (!isPart(part) || number < 1 || number > 9) {
                return false;
            }
            return votes.set(part, number) != number;
        }

        boolean limit(int number) {
            if (number < 1 || number > 9999) {
                return false;
            }
            boolean other = limit != number;
            limit = number;
            return other;
        }

        int mark(int leg, int kind, int i) {
            if (!isLeg(leg) || kind < 0 || kind > 2 || i < 0 || i > 199 || legs[leg].marks.size() == 10) {
                return -1;
            }
            legs[leg].marks.add(new int[] {kind, i, i});
            return legs[leg].marks.size();
        }

        int clean(int leg) {
            if (!isLeg(leg)) {
                return -1;
            }
            int size = legs[leg].marks.size();
            legs[leg].marks.clear();
            return size;
        }

        boolean turn(int part, int by) {
            if (!isPart(part) || by < 1 || by > rows.get(part).length() - 1) {
                return false;
            }
            String row = rows.get(part);
            int cut = row.length() - by;
            rows.set(part, row.substring(cut) + row.substring(0, cut));
            return true;
        }

        boolean swap(int part, int other) {
            if (!isPart(part) || !isPart(other) || part == other) {
                return false;
            }
            rows.set(part, rows.set(other, rows.get(part)));
            votes.set(part, votes.set(other, votes.get(part)));
            return true;
        }

        int multiple(int set) {
            int number = 1;
            for (int p = 0; p < rows.size(); p++) {
                int before = number;
                while ((set >> p & 1) == 1 && number % rows.get(p).length() != 0) {
                    number += before;
                }
            }
            return number;
        }

        int period() {
            return multiple((1 << rows.size()) - 1);
        }

        int enough(int what) {
            int best = -1;
            for (int set = (1 << rows.size()) - 1; set >= 0; set--) {
                if (multiple(set) >= limit && (best < 0 || Integer.bitCount(set) <= Integer.bitCount(best))) {
                    best = set;
                }
            }
            if (best < 0 || what < 0 || what > 1) {
                return -1;
            }
            return what == 0 ? best : rows.size() - Integer.bitCount(best);
        }

        int better(int part, boolean least) {
            if (!isPart(part)) {
                return -1000000;
            }
            int best = 0;
            int bestLeast = Integer.MIN_VALUE;
            int kept = votes.get(part);
            for (int v = 1; v <= 9; v++) {
                votes.set(part, v);
                int min = Integer.MAX_VALUE;
                for (int p = 0; p < rows.size(); p++) {
                    min = Math.min(min, full(p, 0));
                }
                if (min > bestLeast) {
                    best = v;
                    bestLeast = min;
                }
            }
            votes.set(part, kept);
            return least ? bestLeast : best;
        }

        int code(int what) {
            int[] answers = {rows.size(), period(), limit, votes.stream().mapToInt(v -> v).sum(), text.length()};
            return what >= 0 && what <= 4 ? answers[what] : -1;
        }

        int part(int part, int what) {
            if (!isPart(part)) {
                return -77;
            }
            String row = rows.get(part);
            if (what == 0) {
                return row.length();
            }
            if (what == 1) {
                return votes.get(part);
            }
            if (what == 2) {
                return (int) row.chars().filter(c -> c == 'x').count();
            }
            if (what >= 10 && what - 10 < row.length()) {
                return row.charAt(what - 10) == 'x' ? 1 : 0;
            }
            return -77;
        }

        boolean partChip(int p, long t) {
            String row = rows.get(p);
            return row.charAt((int) Math.floorMod(t, (long) row.length())) == 'x';
        }

        boolean codeChip(long t) {
            int yes = 0;
            int no = 0;
            for (int p = 0; p < rows.size(); p++) {
                if (partChip(p, t)) {
                    yes += votes.get(p);
                } else {
                    no += votes.get(p);
                }
            }
            return yes != no ? yes > no : !rows.isEmpty() && partChip(0, t);
        }

        int chip(int t) {
            return codeChip(t) ? 1 : 0;
        }

        int full(int part, int where) {
            if (!isPlace(part, where)) {
                return -1000000;
            }
            int sum = 0;
            int period = period();
            for (int t = 0; t < period; t++) {
                sum += codeChip(t) == partChip(part, t - where) ? 1 : -1;
            }
            return sum;
        }

        int lag(int leg, int i) {
            int[] numbers = legs[leg].numbers;
            int t = numbers[2] + i;
            int lag = numbers[0] + (int) Math.floor(numbers[1] * (double) t / 256.0);
            for (int[] mark : legs[leg].marks) {
                if (mark[1] <= i) {
                    lag += mark[0] == 1 ? 1 : mark[0] == 2 ? -1 : 0;
                }
            }
            return lag;
        }

        int[] hear(int leg) {
            int[] numbers = legs[leg].numbers;
            int station = leg == 1 ? found(0, 0) : 0;
            int[] heard = new int[numbers[3]];
            BigInteger x = BigInteger.valueOf(numbers[5]);
            for (int i = 0; i < heard.length; i++) {
                x = x.multiply(BigInteger.valueOf(1103515245)).add(BigInteger.valueOf(12345)).mod(BigInteger.valueOf(2147483648L));
                int draw = x.divide(BigInteger.valueOf(65536)).mod(BigInteger.valueOf(100)).intValue();
                int number = numbers[2] + i - lag(leg, i);
                boolean yes = leg == 1 && station == -1 ? codeChip(0) : codeChip(number - station);
                boolean lost = false;
                for (int[] mark : legs[leg].marks) {
                    yes ^= mark[0] == 0 && mark[1] == i;
                    lost |= mark[0] == 3 && i >= mark[1] && i <= mark[2];
                }
                yes ^= draw < numbers[4];
                heard[i] = lost ? 2 : yes ? 1 : 0;
            }
            return heard;
        }

        int leg(int leg, int what) {
            if (!isLeg(leg) || what < 0 || what > 10) {
                return -1000;
            }
            if (what < 6) {
                return legs[leg].numbers[what];
            }
            if (what < 9) {
                String kinds = what == 6 ? "0" : what == 7 ? "3" : "12";
                return (int) legs[leg].marks.stream().filter(m -> kinds.contains("" + m[0])).count();
            }
            return (int) Arrays.stream(hear(leg)).filter(h -> what == 9 ? h != 2 : h == 1).count();
        }

        int heard(int leg, int i) {
            return isLeg(leg) && i >= 0 && i < legs[leg].numbers[3] ? hear(leg)[i] : -1;
        }

        int behind(int leg, int i) {
            return isLeg(leg) && i >= 0 && i < legs[leg].numbers[3] ? lag(leg, i) : Integer.MIN_VALUE;
        }

        int matchOf(int[] heard, int leg, int part, int where, int first, int behindLast) {
            int sum = 0;
            for (int i = first; i < behindLast; i++) {
                if (heard[i] != 2) {
                    sum += (heard[i] == 1) == partChip(part, legs[leg].numbers[2] + i - where) ? 1 : -1;
                }
            }
            return sum;
        }

        int matchOf(int[] heard, int leg, int part, int where) {
            return matchOf(heard, leg, part, where, 0, heard.length);
        }

        int match(int leg, int part, int where) {
            return isLeg(leg) && isPlace(part, where) ? matchOf(hear(leg), leg, part, where) : -1000;
        }

        int bestOf(int[] heard, int leg, int part) {
            int best = 0;
            for (int where = 1; where < rows.get(part).length(); where++) {
                if (matchOf(heard, leg, part, where) > matchOf(heard, leg, part, best)) {
                    best = where;
                }
            }
            return best;
        }

        int best(int leg, int part, int what) {
            if (!isLeg(leg) || !isPart(part) || what < 0 || what > 3) {
                return -1000;
            }
            int[] heard = hear(leg);
            int best = bestOf(heard, leg, part);
            int greatest = matchOf(heard, leg, part, best);
            int next = Integer.MIN_VALUE;
            int alike = 0;
            for (int where = 0; where < rows.get(part).length(); where++) {
                int match = matchOf(heard, leg, part, where);
                if (match == greatest) {
                    alike++;
                }
                if (where != best) {
                    next = Math.max(next, match);
                }
            }
            return new int[] {best, greatest, greatest - next, alike}[what];
        }

        int fragile(int leg, int part) {
            if (!isLeg(leg) || !isPart(part)) {
                return -1000;
            }
            int[] heard = hear(leg);
            List<Integer> there = new ArrayList<>();
            for (int i = 0; i < heard.length; i++) {
                if (heard[i] != 2) {
                    there.add(i);
                }
            }
            int best = bestOf(heard, leg, part);
            return there.size() <= 9 ? fragileBySets(heard, there, leg, part, best)
                : fragileByGreed(heard, there, leg, part, best);
        }

        int fragileBySets(int[] heard, List<Integer> there, int leg, int part, int best) {
            int fewest = -1;
            for (int set = 0; set < 1 << there.size(); set++) {
                int[] other = heard.clone();
                for (int k = 0; k < there.size(); k++) {
                    if ((set >> k & 1) == 1) {
                        other[there.get(k)] ^= 1;
                    }
                }
                if (bestOf(other, leg, part) != best && (fewest < 0 || Integer.bitCount(set) < fewest)) {
                    fewest = Integer.bitCount(set);
                }
            }
            return fewest;
        }

        int fragileByGreed(int[] heard, List<Integer> there, int leg, int part, int best) {
            int fewest = -1;
            for (int where = 0; where < rows.get(part).length(); where++) {
                int[] other = heard.clone();
                int turns = 0;
                for (int i : there) {
                    int t = legs[leg].numbers[2] + i;
                    boolean toBest = partChip(part, t - best) == (heard[i] == 1);
                    boolean toOther = partChip(part, t - where) == (heard[i] == 1);
                    if (toBest && !toOther) {
                        other[i] ^= 1;
                        turns++;
                        if (bestOf(other, leg, part) != best) {
                            fewest = fewest < 0 ? turns : Math.min(fewest, turns);
                            break;
                        }
                    }
                }
            }
            return fewest;
        }

        int right(int leg) {
            if (!isLeg(leg)) {
                return -1;
            }
            int whole = lag(leg, 0) + (leg == 1 ? Math.max(found(0, 0), 0) : 0);
            int set = 0;
            int[] heard = hear(leg);
            for (int p = 0; p < rows.size(); p++) {
                set |= bestOf(heard, leg, p) == Math.floorMod(whole, rows.get(p).length()) ? 1 << p : 0;
            }
            return set;
        }

        int[] bests(int leg) {
            int[] heard = hear(leg);
            int[] bests = new int[rows.size()];
            for (int p = 0; p < bests.length; p++) {
                bests[p] = bestOf(heard, leg, p);
            }
            return bests;
        }

        int join(int[] bests, int set) {
            int period = multiple(set);
            for (int number = 0; number < period; number++) {
                boolean all = true;
                for (int p = 0; p < rows.size(); p++) {
                    all &= (set >> p & 1) == 0 || number % rows.get(p).length() == bests[p];
                }
                if (all) {
                    return number;
                }
            }
            return -1;
        }

        int joined(int leg, int parts) {
            if (!isLeg(leg) || parts < 0 || parts >= 1 << rows.size()) {
                return -2;
            }
            return join(bests(leg), parts);
        }

        int found(int leg, int what) {
            if (!isLeg(leg) || what < 0 || what > 5) {
                return -1;
            }
            int[] bests = bests(leg);
            int all = (1 << rows.size()) - 1;
            List<Integer> can = new ArrayList<>();
            for (int set = 0; set <= all; set++) {
                if (set == all && all != 0) {
                    continue;
                }
                int number = join(bests, all - set);
                if (number >= 0 && number < limit) {
                    can.add(set);
                }
            }
            if (can.isEmpty()) {
                return what < 3 ? -1 : 0;
            }
            can.sort(Comparator.comparingInt((Integer set) -> Integer.bitCount(set)).thenComparingInt(set -> set));
            int wrong = can.get(0);
            int distance = join(bests, all - wrong);
            int step = multiple(all - wrong);
            int guesses = 0;
            for (int number = distance; number < limit; number += step) {
                guesses++;
            }
            int sets = (int) can.stream().filter(set -> Integer.bitCount(set) == Integer.bitCount(wrong)).count();
            return new int[] {distance, wrong, step, guesses, wrong == 0 ? 1 : 0, sets}[what];
        }

        int guess(int leg, int k) {
            if (k < 0 || k >= found(leg, 3)) {
                return -1;
            }
            return found(leg, 0) + k * found(leg, 2);
        }

        int[][] likely(int leg) {
            int[] heard = hear(leg);
            int[][] matches = new int[rows.size()][];
            for (int p = 0; p < matches.length; p++) {
                matches[p] = new int[rows.get(p).length()];
                for (int where = 0; where < matches[p].length; where++) {
                    matches[p][where] = matchOf(heard, leg, p, where);
                }
            }
            int[][] all = new int[limit][];
            for (int number = 0; number < limit; number++) {
                int score = 0;
                for (int p = 0; p < matches.length; p++) {
                    score += votes.get(p) * matches[p][number % matches[p].length];
                }
                all[number] = new int[] {number, score};
            }
            Arrays.sort(all, Comparator.comparingInt((int[] one) -> -one[1]).thenComparingInt(one -> one[0]));
            return all;
        }

        int likely(int leg, int k, boolean score) {
            if (!isLeg(leg) || k < 0 || k > 19 || k >= limit) {
                return -1000000;
            }
            return likely(leg)[k][score ? 1 : 0];
        }

        int rank(int leg, int number) {
            if (!isLeg(leg) || number < 0 || number >= limit) {
                return -1;
            }
            int[][] all = likely(leg);
            for (int k = 0; ; k++) {
                if (all[k][0] == number) {
                    return k;
                }
            }
        }

        int broken(int leg, int part, int what) {
            if (!isLeg(leg) || !isPart(part) || what < 0 || what > 4 || legs[leg].numbers[3] == 1) {
                return -1000;
            }
            int[] heard = hear(leg);
            int length = rows.get(part).length();
            int[] best = null;
            for (int i = 1; i < heard.length; i++) {
                int[] ahead = new int[length];
                int[] behind = new int[length];
                for (int where = 0; where < length; where++) {
                    ahead[where] = matchOf(heard, leg, part, where, 0, i);
                    behind[where] = matchOf(heard, leg, part, where, i, heard.length);
                }
                for (int a = 0; a < length; a++) {
                    for (int b = 0; b < length; b++) {
                        if (a != b && (best == null || ahead[a] + behind[b] > best[3])) {
                            best = new int[] {i, a, b, ahead[a] + behind[b], 0};
                        }
                    }
                }
            }
            best[4] = best[3] - matchOf(heard, leg, part, bestOf(heard, leg, part));
            return best[what];
        }

        int both(int what) {
            int lags = lag(0, 0) + lag(1, 0);
            int out = found(0, 0);
            int back = found(1, 0);
            if (what == 1) {
                return lags;
            }
            if (what != 0 && what != 2 || out == -1 || back == -1) {
                return -1000000;
            }
            return what == 0 ? back - out : back - lags;
        }

        static BigInteger[] odds(int n, int p, int m) {
            BigInteger[] ways = new BigInteger[n + 2];
            Arrays.fill(ways, BigInteger.ZERO);
            ways[0] = BigInteger.ONE;
            for (int trial = 0; trial < n; trial++) {
                for (int k = trial + 1; k >= 0; k--) {
                    BigInteger hit = k > 0 ? ways[k - 1].multiply(BigInteger.valueOf(p)) : BigInteger.ZERO;
                    ways[k] = ways[k].multiply(BigInteger.valueOf(10 - p)).add(hit);
                }
            }
            BigInteger upper = BigInteger.ZERO;
            for (int k = m; k <= n; k++) {
                upper = upper.add(ways[k]);
            }
            BigInteger lower = BigInteger.TEN.pow(n);
            BigInteger common = upper.gcd(lower);
            return new BigInteger[] {upper.divide(common), lower.divide(common)};
        }

        long chance(int n, int p, int m, boolean under) {
            if (n < 0 || n > 18 || p < 0 || p > 10 || m < 0 || m > 18) {
                return -1;
            }
            return odds(n, p, m)[under ? 1 : 0].longValueExact();
        }

        int bar(int n, int q) {
            if (n < 1 || n > 18 || q < 0 || q > 1000) {
                return -1;
            }
            for (int m = 0; ; m++) {
                BigInteger[] odds = odds(n, 5, m);
                if (odds[0].multiply(BigInteger.valueOf(1000)).compareTo(odds[1].multiply(BigInteger.valueOf(q))) <= 0) {
                    return m;
                }
            }
        }

        long metres(int leg, long unit) {
            int distance = found(leg, 0);
            if (distance == -1) {
                return Long.MIN_VALUE;
            }
            BigInteger product = BigInteger.valueOf(unit).multiply(BigInteger.valueOf(distance));
            return product.bitLength() > 63 ? Long.MIN_VALUE : product.longValue();
        }

        int longer(int leg, int n, int what) {
            if (!isLeg(leg) || n < 1 || n > 200) {
                return -1;
            }
            Model other = copy();
            other.legs[leg].numbers[3] = n;
            return other.found(leg, what);
        }

        int needs(int leg, int number) {
            if (!isLeg(leg) || number < 0 || number > 9999) {
                return -1;
            }
            Model other = copy();
            for (int n = 1; n <= 200; n++) {
                other.legs[leg].numbers[3] = n;
                int[] bests = other.bests(leg);
                int distance = other.join(bests, (1 << rows.size()) - 1);
                if (distance == number && distance < limit) {
                    return n;
                }
            }
            return -1;
        }

        int track(int leg, int step, int k) {
            if (!isLeg(leg) || step < 1 || step > 200 || k < 0 || k > 20) {
                return -2;
            }
            Model other = copy();
            other.legs[leg].numbers[2] += k * step;
            return other.found(leg, 0);
        }

        int silent(int leg, int part) {
            if (!isLeg(leg) || !isPart(part)) {
                return -1000;
            }
            Model other = copy();
            other.votes.set(part, 0);
            return other.best(leg, part, 1);
        }
    }
}
