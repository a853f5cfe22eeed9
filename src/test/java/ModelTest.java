import java.math.BigInteger;
import java.util.ArrayDeque;
import java.util.ArrayList;
import java.util.Arrays;
import java.util.Deque;
import java.util.List;
import java.util.Random;
import java.util.regex.Matcher;
import java.util.regex.Pattern;

/** Long seeded runs of calls, each answer against that of a slow second model written from the document alone. */
public final class ModelTest {
    private static final int RUNS = 600, CALLS = 512;

    // ---- the second model

    record Ratio(BigInteger above, BigInteger below) {
        static final Ratio ZERO = of(0, 1), ONE = of(1, 1);

        static Ratio of(long a, long b) {
            return new Ratio(BigInteger.valueOf(a), BigInteger.valueOf(b)).lowest();
        }

        Ratio lowest() {
            BigInteger g = above.gcd(below);
            return new Ratio(above.divide(g), below.divide(g));
        }

        Ratio times(Ratio o) {
            return new Ratio(above.multiply(o.above), below.multiply(o.below)).lowest();
        }

        Ratio plus(Ratio o) {
            return new Ratio(above.multiply(o.below).add(o.above.multiply(below)), below.multiply(o.below)).lowest();
        }

        Ratio rest() {
            return new Ratio(below.subtract(above), below).lowest();
        }

        int against(Ratio o) {
            return above.multiply(o.below).compareTo(o.above.multiply(below));
        }
    }

    record Match(int kind, int head, int length) { }

    record Stick(int thick, int beneath) { }

    record Step(int ready, int minute, int next, boolean fire) { }

    static final class State {
        int wind = 2, shelter = 0, wet = 1, end = 6;
        int[] carry = {2, 3, 4, 5, 6, 7};
        List<Match> matches = new ArrayList<>();
        List<Stick> sticks = new ArrayList<>();
        List<Integer> stumps = new ArrayList<>();
        Step step = new Step(0, 0, 0, false);
        Deque<Step> past = new ArrayDeque<>();

        State copy() {
            State s = new State();
            s.wind = wind;
            s.shelter = shelter;
            s.wet = wet;
            s.end = end;
            s.carry = carry.clone();
            s.matches = new ArrayList<>(matches);
            s.sticks = new ArrayList<>(sticks);
            s.stumps = new ArrayList<>(stumps);
            s.step = step;
            s.past = new ArrayDeque<>(past);
            return s;
        }

        int lights(int m, int t, int w) {
            Match x = matches.get(m);
            int gust = Math.max(0, w - shelter);
            int plain = Math.max(0, x.head() - gust - wet * t);
            int calm = Math.max(0, x.head() - wet * t);
            return switch (x.kind()) {
                case 0 -> plain;
                case 1 -> Math.max(0, plain - 2);
                case 2, 3 -> calm;
                case 4 -> plain / 2;
                default -> plain >= 2 ? plain / 2 + 1 : 0;
            };
        }

        int burns(int m) {
            Match x = matches.get(m);
            return switch (x.kind()) {
                case 0, 1 -> x.length();
                case 2 -> Math.max(1, x.length() - 1);
                case 3 -> 2 * Math.max(1, x.length() - 1);
                default -> x.length() - x.length() / 2;
            };
        }

        Ratio fire(int m, int t, int r) {
            return Ratio.of((long) lights(m, t, wind) * carry[r], 100);
        }

        List<Integer> left() {
            List<Integer> l = new ArrayList<>();
            for (int m = step.next(); m < matches.size(); m++) {
                l.add(m);
            }
            return l;
        }

        /** One behind the other, each in a minute of its own by so many minutes between. */
        Ratio all(List<Integer> row, int t, int r, int between) {
            Ratio fails = Ratio.ONE;
            int minute = t;
            for (int m : row) {
                fails = fails.times(fire(m, minute, r).rest());
                minute += between;
            }
            return fails.rest();
        }

        Ratio allNow(List<Integer> row) {
            return all(row, step.minute(), step.ready(), 0);
        }

        Ratio strikeFirst(int m, int t, int r) {
            Ratio p = fire(m, t, r);
            return p.plus(p.rest().times(best(m + 1, t, r)));
        }

        Ratio best(int m, int t, int r) {
            if (m >= matches.size()) {
                return Ratio.ZERO;
            }
            Ratio strike = strikeFirst(m, t, r);
            if (t >= end) {
                return strike;
            }
            Ratio spare = best(m, t + 1, Math.min(5, r + 1));
            return spare.against(strike) > 0 ? spare : strike;
        }

        Ratio rule(int k) {
            int t = step.minute();
            int r = step.ready();
            while (r < k && t < end) {
                r++;
                t++;
            }
            return all(left(), t, r, 0);
        }
    }

    State now = new State();
    State[] images = new State[2];
    String text = "";
    Ratio fraction = Ratio.ZERO;
    int bad, no, full;

    int no() {
        no++;
        return -3;
    }

    int bad() {
        bad++;
        return -2;
    }

    int badTen() {
        bad++;
        return -10;
    }

    static boolean in(int n, int least, int most) {
        return n >= least && n <= most;
    }

    int item(State s, String word, int a, int b, int c) {
        switch (word) {
            case "carry":
                if (!in(a, 0, 5) || !in(b, 0, 10)) {
                    return -2;
                }
                int was = s.carry[a];
                s.carry[a] = b;
                return was;
            case "match":
                if (!in(a, 0, 5) || !in(b, 0, 10) || !in(c, 1, 9)) {
                    return -2;
                }
                return s.matches.size() == 6 ? -4 : s.matches.add(new Match(a, b, c)) ? s.matches.size() - 1 : 0;
            case "stick":
                if (!in(a, 1, 9) || !in(b, 0, (1 << s.sticks.size()) - 1)) {
                    return -2;
                }
                return s.sticks.size() == 7 ? -4 : s.sticks.add(new Stick(a, b)) ? s.sticks.size() - 1 : 0;
            case "stump":
                if (!in(a, 0, 18)) {
                    return -2;
                }
                return s.stumps.size() == 5 ? -4 : s.stumps.add(a) ? s.stumps.size() : 0;
            default:
                return ground(s, word, a);
        }
    }

    int ground(State s, String word, int n) {
        int was;
        switch (word) {
            case "wind":
                was = s.wind;
                s.wind = in(n, 0, 9) ? n : was;
                return in(n, 0, 9) ? was : -2;
            case "shelter":
                was = s.shelter;
                s.shelter = in(n, 0, 9) ? n : was;
                return in(n, 0, 9) ? was : -2;
            case "wet":
                was = s.wet;
                s.wet = in(n, 0, 3) ? n : was;
                return in(n, 0, 3) ? was : -2;
            default:
                was = s.end;
                boolean good = in(n, s.step.minute(), 12);
                s.end = good ? n : was;
                return good ? was : -2;
        }
    }

    int told(int answer) {
        if (answer == -2) {
            bad++;
        } else if (answer == -4) {
            full++;
        }
        return answer;
    }

    private static final Pattern TOKEN = Pattern.compile(" *([a-z]+|[0-9]+|;)");
    private static final String FORMS = "wind 1 shelter 1 wet 1 end 1 carry 2 match 3 stick 2 stump 1 ";

    int read() {
        List<String> tokens = new ArrayList<>();
        List<Integer> places = new ArrayList<>();
        Matcher m = TOKEN.matcher(text);
        int place = 0;
        while (m.find(place) && m.start() == place) {
            tokens.add(m.group(1));
            places.add(m.start(1));
            place = m.end();
        }
        while (place < text.length() && text.charAt(place) == ' ') {
            place++;
        }
        tokens.add(place == text.length() ? "over" : "wrong");
        places.add(place);
        State s = new State();
        int items = 0;
        int refused = -1;
        for (int i = 0; i < tokens.size() - 1; ) {
            String word = tokens.get(i);
            int at = FORMS.indexOf(word + " ");
            boolean known = word.matches("[a-z]+") && at >= 0 && (at == 0 || FORMS.charAt(at - 1) == ' ');
            if (!known) {
                return -10 - places.get(i);
            }
            int wanted = FORMS.charAt(at + word.length() + 1) - '0';
            int[] n = new int[3];
            for (int j = 0; j < wanted; j++) {
                i++;
                if (!tokens.get(i).matches("[0-9]{1,3}")) {
                    return -10 - places.get(i);
                }
                n[j] = Integer.parseInt(tokens.get(i));
            }
            i++;
            if (!tokens.get(i).equals(";")) {
                return -10 - places.get(i);
            }
            i++;
            if (refused < 0 && item(s, word, n[0], n[1], n[2]) < 0) {
                refused = items;
            }
            items++;
        }
        if (!tokens.get(tokens.size() - 1).equals("over")) {
            return -10 - place;
        }
        if (refused >= 0) {
            return -1000 - refused;
        }
        now = s;
        return items;
    }

    void remember() {
        now.past.addLast(now.step);
        if (now.past.size() > 8) {
            now.past.removeFirst();
        }
    }

    int strike(boolean lit, boolean fire) {
        if (fire && !lit) {
            return bad();
        }
        Step s = now.step;
        if (s.fire() || now.left().isEmpty()) {
            return no();
        }
        remember();
        now.step = new Step(s.ready(), s.minute(), s.next() + 1, fire);
        return s.next();
    }

    int ready() {
        Step s = now.step;
        if (s.fire() || s.minute() >= now.end) {
            return no();
        }
        remember();
        now.step = new Step(Math.min(5, s.ready() + 1), s.minute() + 1, s.next(), false);
        return now.step.ready();
    }

    int undo() {
        if (now.past.isEmpty()) {
            return no();
        }
        now.step = now.past.removeLast();
        return 1;
    }

    boolean isMatch(int m) {
        return in(m, 0, now.matches.size() - 1);
    }

    int of(int m, int what) {
        if (!isMatch(m) || !in(what, 0, 3)) {
            return bad();
        }
        Match x = now.matches.get(m);
        return new int[] {x.kind(), x.head(), now.lights(m, now.step.minute(), now.wind), now.burns(m)}[what];
    }

    int chance(int m, int what) {
        if (!isMatch(m) || !in(what, 0, 1)) {
            return bad();
        }
        int t = now.step.minute();
        fraction = what == 0 ? Ratio.of(now.lights(m, t, now.wind), 10) : now.fire(m, t, now.step.ready());
        return 1;
    }

    Ratio bestNow() {
        return now.best(now.step.next(), now.step.minute(), now.step.ready());
    }

    int best() {
        fraction = bestNow();
        if (now.left().isEmpty()) {
            return 0;
        }
        Ratio strike = now.strikeFirst(now.step.next(), now.step.minute(), now.step.ready());
        return fraction.against(strike) > 0 ? 2 : 1;
    }

    int rule(int k) {
        if (!in(k, 0, 5)) {
            return bad();
        }
        fraction = now.rule(k);
        return 1;
    }

    int bestRule() {
        int best = 0;
        for (int k = 1; k <= 5; k++) {
            best = now.rule(k).against(now.rule(best)) > 0 ? k : best;
        }
        return best;
    }

    Ratio either(Ratio a, Ratio b) {
        return a.rest().times(b.rest()).rest();
    }

    Ratio tenth(int n) {
        return Ratio.of(n, 10);
    }

    int split() {
        List<Integer> left = now.left();
        if (left.isEmpty()) {
            return no();
        }
        int half = now.lights(left.get(0), now.step.minute(), now.wind) / 2;
        Ratio one = tenth(half).times(tenth(now.carry[now.step.ready()]));
        Ratio others = now.allNow(left.subList(1, left.size()));
        return either(either(one, one), others).against(now.allNow(left));
    }

    int both() {
        List<Integer> left = now.left();
        if (left.size() < 2) {
            return no();
        }
        int t = now.step.minute();
        Ratio light = either(tenth(now.lights(left.get(0), t, now.wind)), tenth(now.lights(left.get(1), t, now.wind)));
        Ratio two = light.times(tenth(now.carry[now.step.ready()]));
        return either(two, now.allNow(left.subList(2, left.size()))).against(now.allNow(left));
    }

    int candle(int n) {
        if (!in(n, 1, 6)) {
            return bad();
        }
        List<Integer> left = now.left();
        if (left.isEmpty()) {
            return no();
        }
        Ratio tries = Ratio.ZERO;
        for (int i = 0; i < n; i++) {
            tries = either(tries, tenth(now.carry[now.step.ready()]));
        }
        Ratio lights = tenth(now.lights(left.get(0), now.step.minute(), now.wind));
        Ratio others = now.allNow(left.subList(1, left.size()));
        fraction = lights.times(tries).plus(lights.rest().times(others));
        return 1;
    }

    int waits(int m, int g, int c) {
        if (!in(m, 0, 5) || !in(g, 0, 10) || !in(c, 0, 10)) {
            return bad();
        }
        Ratio dawn = tenth(g);
        for (int i = 0; i < m; i++) {
            dawn = dawn.times(tenth(c));
        }
        return dawn.against(bestNow());
    }

    static void rowsOf(List<Integer> rest, List<Integer> row, int many, List<List<Integer>> rows) {
        if (row.size() == many) {
            rows.add(new ArrayList<>(row));
            return;
        }
        for (int i = 0; i < rest.size(); i++) {
            List<Integer> others = new ArrayList<>(rest);
            row.add(others.remove(i));
            rowsOf(others, row, many, rows);
            row.remove(row.size() - 1);
        }
    }

    static List<List<Integer>> rows(List<Integer> of, int many) {
        List<List<Integer>> rows = new ArrayList<>();
        rowsOf(of, new ArrayList<>(), many, rows);
        return rows;
    }

    int whose(int i) {
        if (i < 0) {
            return badTen();
        }
        Ratio most = null;
        List<Integer> first = null;
        for (List<Integer> row : rows(now.left(), now.left().size())) {
            Ratio chance = now.all(row, now.step.minute(), now.step.ready(), 1);
            if (most == null || chance.against(most) > 0) {
                most = chance;
                first = row;
            }
        }
        fraction = most;
        return i < first.size() ? first.get(i) : -5;
    }

    int laid(int lit, int stick) {
        int n = now.sticks.size();
        if (!in(lit, 0, (1 << n) - 1) || !in(stick, -1, n - 1)) {
            return badTen();
        }
        int[] since = new int[n];
        for (int s = 0; s < n; s++) {
            since[s] = (lit >> s) % 2 == 1 ? 0 : 999;
        }
        for (int t = 1; t < 200; t++) {
            int[] then = since.clone();
            for (int s = 0; s < n; s++) {
                int heat = 0;
                for (int b = 0; b < n; b++) {
                    int thick = now.sticks.get(b).thick();
                    boolean burns = since[b] < t && t - since[b] <= thick;
                    heat += burns && (now.sticks.get(s).beneath() >> b) % 2 == 1 ? thick : 0;
                }
                if (since[s] == 999 && heat >= now.sticks.get(s).thick()) {
                    then[s] = t;
                }
            }
            since = then;
        }
        if (stick >= 0) {
            return since[stick] == 999 ? -1 : since[stick];
        }
        int bits = 0;
        for (int s = 0; s < n; s++) {
            bits += since[s] == 999 ? 0 : 1 << s;
        }
        return bits;
    }

    int order(int n, int i) {
        if (!in(n, 1, 9) || i < -1) {
            return badTen();
        }
        List<Integer> all = new ArrayList<>();
        for (int s = 0; s < now.sticks.size(); s++) {
            all.add(s);
        }
        int most = -1;
        List<Integer> first = null;
        for (List<Integer> row : rows(all, all.size())) {
            int lit = 0;
            while (lit < row.size()) {
                int thick = now.sticks.get(row.get(lit)).thick();
                if (lit == 0 ? n < thick : now.sticks.get(row.get(lit - 1)).thick() < thick - 2) {
                    break;
                }
                lit++;
            }
            if (lit > most) {
                most = lit;
                first = row;
            }
        }
        return i == -1 ? most : i < first.size() ? first.get(i) : -5;
    }

    int feed(int f, int e, int b, int t, int i) {
        if (!in(f, 0, 99) || !in(e, 1, 9) || !in(b, 1, 99) || !in(t, 0, 99) || i < -1) {
            return badTen();
        }
        List<Integer> hours = new ArrayList<>();
        int next = (Math.min(f, b) + e - 1) / e;
        while (next < t) {
            hours.add(next);
            next += (b + e - 1) / e;
        }
        return i == -1 ? hours.size() : i < hours.size() ? hours.get(i) : -5;
    }

    int stumps(int what) {
        if (!in(what, 0, 1)) {
            return badTen();
        }
        List<Integer> all = new ArrayList<>();
        for (int m = 0; m < now.matches.size(); m++) {
            all.add(m);
        }
        int many = 0;
        int first = -1;
        for (List<Integer> row : rows(all, now.stumps.size())) {
            boolean fits = true;
            for (int j = 0; j < row.size(); j++) {
                fits &= now.burns(row.get(j)) == now.stumps.get(j);
            }
            if (fits) {
                first = many == 0 && !row.isEmpty() ? row.get(0) : first;
                many++;
            }
        }
        return what == 0 ? many : first;
    }

    int winds(int m, int t, int k, int j) {
        if (!isMatch(m) || !in(t, 0, 12) || !in(k, 0, 18) || !in(j, 0, k)) {
            return badTen();
        }
        BigInteger most = BigInteger.ZERO;
        int wind = -1;
        for (int w = 0; w <= 9; w++) {
            BigInteger p = BigInteger.valueOf(now.lights(m, t, w));
            BigInteger likely = p.pow(j).multiply(BigInteger.TEN.subtract(p).pow(k - j));
            if (likely.compareTo(most) > 0) {
                most = likely;
                wind = w;
            }
        }
        return wind;
    }

    int evenings(int n, int seed) {
        if (!in(n, 0, 60) || !in(seed, 0, 999999)) {
            return bad();
        }
        BigInteger x = BigInteger.valueOf(seed);
        int fires = 0;
        for (int e = 0; e < n; e++) {
            for (int m : now.left()) {
                x = x.multiply(BigInteger.valueOf(1103515245)).add(BigInteger.valueOf(12345)).mod(BigInteger.TWO.pow(31));
                int drawn = x.divide(BigInteger.valueOf(65536)).mod(BigInteger.valueOf(100)).intValue();
                if (drawn < now.lights(m, now.step.minute(), now.wind) * now.carry[now.step.ready()]) {
                    fires++;
                    break;
                }
            }
        }
        return fires;
    }

    int clean(int what) {
        if (!in(what, 0, 1)) {
            return bad();
        }
        List<?> row = what == 0 ? now.sticks : now.stumps;
        int were = row.size();
        row.clear();
        return were;
    }

    int type(int c) {
        if (!in(c, 0, 127)) {
            return bad();
        }
        if (text.length() == 150) {
            return told(-4);
        }
        text = text + (char) c;
        return text.length();
    }

    long part(int what) {
        return in(what, 0, 1) ? (what == 0 ? fraction.above() : fraction.below()).longValueExact() : bad();
    }

    int image(int i) {
        if (!in(i, 0, 1)) {
            return bad();
        }
        images[i] = now.copy();
        return 1;
    }

    int from(int i) {
        if (!in(i, 0, 1)) {
            return bad();
        }
        if (images[i] == null) {
            return no();
        }
        now = images[i].copy();
        return 1;
    }

    int status(int what) {
        if (!in(what, 0, 2)) {
            bad++;
            return -1;
        }
        return new int[] {bad, no, full}[what];
    }

    int[] counts() {
        Step s = now.step;
        return new int[] {now.matches.size(), s.next(), s.ready(), s.minute(), now.sticks.size(), now.stumps.size(),
            now.past.size(), text.length(), s.fire() ? 1 : 0};
    }

    long digest() {
        List<Integer> v = new ArrayList<>();
        Arrays.stream(counts()).forEach(v::add);
        v.addAll(List.of(now.wind, now.shelter, now.wet, now.end));
        Arrays.stream(now.carry).forEach(v::add);
        now.matches.forEach(m -> v.addAll(List.of(m.kind(), m.head(), m.length())));
        now.sticks.forEach(s -> v.addAll(List.of(s.thick(), s.beneath())));
        v.addAll(now.stumps);
        long h = 881;
        for (int each : v) {
            h = 31 * h + each;
        }
        h = 31 * h + part(0);
        return 31 * h + part(1);
    }

    // ---- the runs

    private static final int[] WILD = {Integer.MIN_VALUE, -1000, -2, -1, 31, 63, 64, 128, 255, 1000000, Integer.MAX_VALUE};
    private static final int KINDS_OF_CALLS = 36;

    private final Random random;
    private final LastMatches x = new LastMatches();
    private final List<String> calls = new ArrayList<>();
    private int wrong = 0;

    private ModelTest(int seed) {
        random = new Random(seed);
    }

    private int from(int least, int most) {
        int dice = random.nextInt(60);
        if (dice == 0) {
            return WILD[random.nextInt(WILD.length)];
        }
        if (dice == 1) {
            return random.nextBoolean() ? least - 1 : most + 1;
        }
        return least + random.nextInt(most - least + 1);
    }

    private void same(String call, long got, long want) {
        calls.add(call + " -> " + got);
        if (got != want) {
            wrong++;
            System.out.println(call + " answered " + got + ", the model says " + want + "; ahead of it:");
            System.out.println("  " + String.join(", ", calls.subList(Math.max(0, calls.size() - 60), calls.size())));
        }
    }

    private void call(String name, int... n) {
        same(name + Arrays.toString(n), answer(name, n), due(name, n));
    }

    private long answer(String name, int[] n) {
        return switch (name) {
            case "clearing" -> x.clearing(n[0], n[1]);
            case "carry" -> x.carry(n[0], n[1]);
            case "match" -> x.match(n[0], n[1], n[2]);
            case "stick" -> x.stick(n[0], n[1]);
            case "stump" -> x.stump(n[0]);
            case "clean" -> x.clean(n[0]);
            case "type" -> x.type(n[0]);
            case "clear" -> x.clear();
            case "read" -> x.read();
            case "strike" -> x.strike(n[0] == 1, n[1] == 1);
            case "ready" -> x.ready();
            case "undo" -> x.undo();
            case "of" -> x.of(n[0], n[1]);
            case "chance" -> x.chance(n[0], n[1]);
            case "best" -> x.best();
            case "rule" -> x.rule(n[0]);
            case "bestRule" -> x.bestRule();
            case "split" -> x.split();
            case "both" -> x.both();
            case "candle" -> x.candle(n[0]);
            case "waits" -> x.waits(n[0], n[1], n[2]);
            case "whose" -> x.whose(n[0]);
            case "laid" -> x.laid(n[0], n[1]);
            case "order" -> x.order(n[0], n[1]);
            case "feed" -> x.feed(n[0], n[1], n[2], n[3], n[4]);
            case "stumps" -> x.stumps(n[0]);
            case "winds" -> x.winds(n[0], n[1], n[2], n[3]);
            case "evenings" -> x.evenings(n[0], n[1]);
            case "part" -> x.part(n[0]);
            case "image" -> x.image(n[0]);
            case "from" -> x.from(n[0]);
            case "status" -> x.status(n[0]);
            case "count" -> x.count(n[0]);
            default -> x.digest();
        };
    }

    private long due(String name, int[] n) {
        return switch (name) {
            case "clearing" -> in(n[0], 0, 3)
                ? told(ground(now, List.of("wind", "shelter", "wet", "end").get(n[0]), n[1])) : bad();
            case "carry", "stick" -> told(item(now, name, n[0], n[1], 0));
            case "match" -> told(item(now, name, n[0], n[1], n[2]));
            case "stump" -> told(item(now, name, n[0], 0, 0));
            case "clean" -> clean(n[0]);
            case "type" -> type(n[0]);
            case "clear" -> {
                int had = text.length();
                text = "";
                yield had;
            }
            case "read" -> read();
            case "strike" -> strike(n[0] == 1, n[1] == 1);
            case "ready" -> ready();
            case "undo" -> undo();
            case "of" -> of(n[0], n[1]);
            case "chance" -> chance(n[0], n[1]);
            case "best" -> best();
            case "rule" -> rule(n[0]);
            case "bestRule" -> bestRule();
            case "split" -> split();
            case "both" -> both();
            case "candle" -> candle(n[0]);
            case "waits" -> waits(n[0], n[1], n[2]);
            case "whose" -> whose(n[0]);
            case "laid" -> laid(n[0], n[1]);
            case "order" -> order(n[0], n[1]);
            case "feed" -> feed(n[0], n[1], n[2], n[3], n[4]);
            case "stumps" -> stumps(n[0]);
            case "winds" -> winds(n[0], n[1], n[2], n[3]);
            case "evenings" -> evenings(n[0], n[1]);
            case "part" -> part(n[0]);
            case "image" -> image(n[0]);
            case "from" -> from(n[0]);
            case "status" -> status(n[0]);
            case "count" -> in(n[0], 0, 8) ? counts()[n[0]] : bad();
            default -> digest();
        };
    }

    private void callOne() {
        int m = now.matches.size();
        int s = now.sticks.size();
        switch (random.nextInt(KINDS_OF_CALLS)) {
            case 0 -> clearingCall();
            case 1 -> call("carry", from(0, 5), from(0, 10));
            case 2, 34 -> call("match", from(0, 5), from(random.nextBoolean() ? 0 : 6, 10), from(1, 9));
            case 3, 35 -> call("stick", from(1, 9), random.nextInt(8) == 0 ? from(0, 127) : random.nextInt(1 << s));
            case 4 -> call("stump", from(1, random.nextBoolean() ? 5 : 18));
            case 5 -> call("clean", random.nextInt(3) == 0 ? from(0, 1) : 1);
            case 6 -> call("type", from(0, 127));
            case 7 -> call("clear");
            case 8 -> textCalls();
            case 9 -> call("strike", random.nextInt(2), random.nextInt(4) / 3);
            case 10 -> call("ready");
            case 11 -> call("undo");
            case 12 -> call("of", from(0, m), from(0, 3));
            case 13 -> call("chance", from(0, m), from(0, 1));
            case 14 -> call("best");
            case 15 -> call("rule", from(0, 5));
            case 16 -> call("bestRule");
            case 17 -> call("split");
            case 18 -> call("both");
            case 19 -> call("candle", from(1, 6));
            case 20 -> call("waits", from(0, random.nextBoolean() ? 1 : 5), from(0, 10), from(0, 10));
            case 21 -> call("whose", from(0, m));
            case 22 -> call("laid", from(0, (1 << s) - 1), from(-1, s));
            case 23 -> call("order", from(1, 9), from(-1, s));
            case 24 -> call("feed", from(0, 99), from(1, 9), from(1, random.nextBoolean() ? 9 : 99), from(0, 99), from(-1, 3));
            case 25 -> call("stumps", from(0, 1));
            case 26 -> windsCall(m);
            case 27 -> call("evenings", from(0, 60), from(0, 999999));
            case 28 -> call("part", from(0, 1));
            case 29 -> call("image", from(0, 1));
            case 30 -> call("from", from(0, 1));
            case 31 -> call("status", from(0, 2));
            case 32 -> call("count", from(0, 8));
            default -> call("digest");
        }
    }

    private void clearingCall() {
        int what = from(0, 3);
        int[] most = {9, 9, 3, 12};
        call("clearing", what, from(0, in(what, 0, 3) ? most[what] : 9));
    }

    private void windsCall(int m) {
        int k = from(0, 18);
        call("winds", from(0, m), from(0, random.nextBoolean() ? 2 : 12), k, from(0, in(k, 0, 18) ? k : 18));
    }

    private void textCalls() {
        call("clear");
        StringBuilder t = new StringBuilder();
        String[] words = {"wind", "shelter", "wet", "end", "carry", "match", "match", "match", "stick", "stick", "stump"};
        int[] numbers = {1, 1, 1, 1, 2, 3, 3, 3, 2, 2, 1};
        int items = random.nextInt(9);
        int sticks = 0;
        for (int i = 0; i < items; i++) {
            int w = random.nextInt(words.length);
            t.append(" ".repeat(random.nextInt(2))).append(words[w]);
            for (int j = 0; j < numbers[w]; j++) {
                boolean bits = words[w].equals("stick") && j == 1;
                int n = random.nextInt(25) == 0 ? random.nextInt(1200) : bits ? random.nextInt(1 << Math.min(7, sticks)) : 1 + random.nextInt(3);
                t.append(j == 0 && random.nextBoolean() ? "" : " ").append(random.nextInt(9) == 0 ? "0" : "").append(n);
            }
            sticks += words[w].equals("stick") ? 1 : 0;
            t.append(" ".repeat(random.nextInt(6) / 5)).append(';');
        }
        if (t.length() > 0 && random.nextInt(3) == 0) {
            int place = random.nextInt(t.length());
            String odd = "aw;; 01\tW{/:`";
            switch (random.nextInt(4)) {
                case 0 -> t.deleteCharAt(place);
                case 1 -> t.insert(place, odd.charAt(random.nextInt(odd.length())));
                case 2 -> t.setCharAt(place, odd.charAt(random.nextInt(odd.length())));
                default -> t.setLength(place);
            }
        }
        for (int i = 0; i < Math.min(t.length(), 100); i++) {
            call("type", t.charAt(i));
        }
        call("read");
        call("digest");
    }

    public static void main(String[] args) {
        int wrong = 0;
        long calls = 0;
        for (int seed = 0; seed < RUNS && wrong < 3; seed++) {
            ModelTest run = new ModelTest(seed);
            for (int guard = 0; guard < CALLS && run.calls.size() < CALLS; guard++) {
                run.callOne();
            }
            if (run.wrong > 0) {
                System.out.println("seed " + seed);
            }
            wrong += run.wrong;
            calls += run.calls.size();
        }
        System.out.println(calls + " calls by " + RUNS + " seeds, " + wrong + " wrong");
        if (wrong != 0) {
            System.exit(1);
        }
    }
}
