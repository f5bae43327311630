import java.math.BigInteger;
import java.util.ArrayDeque;
import java.util.ArrayList;
import java.util.Arrays;
import java.util.Deque;
import java.util.List;
import java.util.TreeMap;

/**
 * The document once more, written in another way (lists, whole numbers without
 * bounds, plain trying), so that long runs of both can be held together.
 */
final class Model {
    private static final class No extends RuntimeException {
        private static final long serialVersionUID = 1L;
        final int code;

        No(int code) {
            super(null, null, false, false);
            this.code = code;
        }
    }

    private interface Asked {
        long get();
    }

    private record Thing(int kind, int row, int number, int hour) { }

    private record Age(int thing, int hour, int hundredths) { }

    private record Text(List<String> like, List<String> truth) { }

    private int hour = 0;
    private final List<int[]> rows = new ArrayList<>();
    private final List<Thing> things = new ArrayList<>();
    private final List<Integer> steps = new ArrayList<>();
    private final List<long[]> lights = new ArrayList<>();
    private final List<int[]> eyes = new ArrayList<>();
    private final List<int[]> plates = new ArrayList<>();
    private final List<Age> ages = new ArrayList<>();
    private final List<int[]> filters = new ArrayList<>();
    private final List<Text> texts = new ArrayList<>();
    private String tape = "";
    private int rule = 0;
    private final Object[] sheets = new Object[4];

    Model() {
        texts.add(new Text(List.of("sum"), List.of("a", "+", "b", "+", "c")));
    }

    private static long answer(Asked asked) {
        try {
            return asked.get();
        } catch (No no) {
            return no.code;
        }
    }

    private static void need(boolean is, int code) {
        if (!is) {
            throw new No(code);
        }
    }

    private static <T> T one(List<T> all, int i, int code) {
        need(i >= 0 && i < all.size(), code);
        return all.get(i);
    }

    private static void room(List<?> all, int most) {
        need(all.size() < most, -4);
    }

    private static void between(long n, long least, long most) {
        need(n >= least && n <= most, -2);
    }

    private static List<Integer> told(int bits, List<?> all, int least, int most) {
        List<Integer> found = new ArrayList<>();
        for (int i = 0; i < 32; i++) {
            if ((bits & 1 << i) != 0) {
                need(i < all.size(), -2);
                found.add(i);
            }
        }
        need(found.size() >= least && found.size() <= most, -2);
        return found;
    }

    long pass(int n) {
        return answer(() -> {
            between(n, 1, 1000);
            need(hour + n <= 9999, -4);
            return hour += n;
        });
    }

    long row(long first, long second) {
        return answer(() -> {
            between(first, 0, 999999999999L);
            between(second, 0, 999999999999L);
            room(rows, 30);
            String all = String.format("%012d%012d", second, first);
            int[] row = new int[8];
            for (int c = 0; c < 8; c++) {
                row[c] = Integer.parseInt(all.substring(21 - 3 * c, 24 - 3 * c));
            }
            rows.add(row);
            return rows.size() - 1;
        });
    }

    long rowTold(int row, int colour) {
        return answer(() -> {
            between(colour, 0, 7);
            return one(rows, row, -2)[colour];
        });
    }

    long thing(int kind, int row, int number) {
        return answer(() -> {
            between(kind, 0, 5);
            one(rows, row, -2);
            between(number, 0, 99);
            room(things, 20);
            things.add(new Thing(kind, row, number, hour));
            steps.add(65535);
            return things.size() - 1;
        });
    }

    long thingTold(int thing, int what) {
        return answer(() -> {
            Thing t = one(things, thing, -2);
            between(what, 0, 5);
            int[] all = {t.kind, t.row, t.number, t.hour, steps.get(thing), stillAt(thing, hour - t.hour)};
            return all[what];
        });
    }

    private static long cap(BigInteger n) {
        return n.min(BigInteger.valueOf(1000000000)).longValueExact();
    }

    private static BigInteger by(BigInteger n, long times, long by) {
        return n.multiply(BigInteger.valueOf(times)).divide(BigInteger.valueOf(by));
    }

    private long[] turned(long[] light, int thing) {
        Thing t = things.get(thing);
        int[] r = rows.get(t.row);
        long[] made = new long[8];
        for (int c = 0; c < 8; c++) {
            BigInteger x = BigInteger.valueOf(light[c]);
            BigInteger y = by(x, r[c], 1000);
            int glass = 500 + r[c] / 2;
            if (t.kind == 1 || t.kind == 3) {
                y = y.add(BigInteger.valueOf(r[c]));
            }
            if (t.kind == 3) {
                y = by(y, 100 - t.number, 100);
            }
            if (t.kind == 2 || t.kind == 4 || t.kind == 5) {
                y = by(x, glass, 1000);
            }
            if (t.kind == 5) {
                y = by(y, glass, 1000);
            }
            if (t.kind == 4 && t.number % 8 == c) {
                y = y.add(BigInteger.valueOf(light[0] / 2));
            }
            made[c] = cap(y);
        }
        return made;
    }

    long light(int row) {
        return answer(() -> {
            int[] r = one(rows, row, -2);
            room(lights, 20);
            lights.add(Arrays.stream(r).asLongStream().toArray());
            return lights.size() - 1;
        });
    }

    long shine(int light, int thing, int aged) {
        return answer(() -> {
            long[] from = one(lights, light, -2);
            Thing t = one(things, thing, -2);
            between(aged, 0, 1);
            room(lights, 20);
            long[] made = turned(from, thing);
            for (int c = 0; c < 8 && aged == 1; c++) {
                made[c] = made[c] * stillAt(thing, hour - t.hour) / 100;
            }
            lights.add(made);
            return lights.size() - 1;
        });
    }

    long both(int a, int b) {
        return answer(() -> {
            long[] x = one(lights, a, -2);
            long[] y = one(lights, b, -2);
            room(lights, 20);
            long[] made = new long[8];
            for (int c = 0; c < 8; c++) {
                made[c] = Math.min(1000000000L, x[c] + y[c]);
            }
            lights.add(made);
            return lights.size() - 1;
        });
    }

    long lightTold(int light, int colour) {
        return answer(() -> {
            between(colour, 0, 7);
            return one(lights, light, -2)[colour];
        });
    }

    long eye(int first, int second, int third) {
        return answer(() -> {
            one(rows, first, -2);
            one(rows, second, -2);
            if (third != -1) {
                one(rows, third, -2);
            }
            room(eyes, 8);
            eyes.add(third == -1 ? new int[] {first, second} : new int[] {first, second, third});
            return eyes.size() - 1;
        });
    }

    private long sees(int row, long[] light) {
        long sum = 0;
        for (int c = 0; c < 8; c++) {
            sum += light[c] * rows.get(row)[c];
        }
        return sum;
    }

    private boolean isSame(int eye, long[] a, long[] b) {
        return Arrays.stream(eyes.get(eye)).allMatch(row -> sees(row, a) == sees(row, b));
    }

    long seen(int eye, int taker, int light) {
        if (eye < 0 || eye >= eyes.size() || taker < 0 || taker >= eyes.get(eye).length
                || light < 0 || light >= lights.size()) {
            return LampHouse.NO;
        }
        return sees(eyes.get(eye)[taker], lights.get(light));
    }

    long same(int eye, int a, int b) {
        return answer(() -> {
            one(eyes, eye, -2);
            return isSame(eye, one(lights, a, -2), one(lights, b, -2)) ? 1 : 0;
        });
    }

    long twins(int one, int other, int i) {
        return answer(() -> {
            one(eyes, one, -2);
            one(eyes, other, -2);
            List<Integer> pairs = new ArrayList<>();
            for (int a = 0; a < lights.size(); a++) {
                for (int b = 0; b < lights.size(); b++) {
                    if (a < b && isSame(one, lights.get(a), lights.get(b))
                            && !isSame(other, lights.get(a), lights.get(b))) {
                        pairs.add(100 * a + b);
                    }
                }
            }
            return i == -1 ? pairs.size() : one(pairs, i, -1);
        });
    }

    long feed(int n, long bytes) {
        return answer(() -> {
            between(n, 1, 8);
            need(tape.length() + n <= 160, -4);
            for (int i = 0; i < n; i++) {
                tape += (char) (bytes >>> 8 * i & 255);
            }
            return tape.length();
        });
    }

    long text() {
        return answer(() -> {
            room(texts, 6);
            String text = tape;
            tape = "";
            Machine read = new Machine(text);
            int fault = read.fault();
            need(fault < 0, -100 - fault);
            int middle = read.tokens.indexOf(";");
            texts.add(new Text(List.copyOf(read.tokens.subList(1, middle)),
                List.copyOf(read.tokens.subList(middle + 2, read.tokens.size() - 1))));
            return texts.size() - 1;
        });
    }

    /**
     * Tells a FAULT without a grammar of methods: it keeps whether a ONE is due
     * and what is open, and looks at each token once.
     */
    private static final class Machine {
        final String text;
        final List<String> tokens = new ArrayList<>();
        final List<Integer> places = new ArrayList<>();

        Machine(String text) {
            this.text = text;
            int at = 0;
            while (at < text.length()) {
                char c = text.charAt(at);
                int end = at + 1;
                String sort = c >= 'a' && c <= 'z' ? "[a-z]" : c >= '0' && c <= '9' ? "[0-9]" : "";
                while (!sort.isEmpty() && end < text.length() && text.substring(end, end + 1).matches(sort)) {
                    end++;
                }
                if (c != ' ' && c != '\n') {
                    tokens.add(text.substring(at, end));
                    places.add(at);
                }
                at = end;
            }
        }

        private static boolean isOne(String token) {
            return token.matches("[0-9]{1,4}") || List.of("a", "b", "c", "sum", "kind", "hour").contains(token);
        }

        int fault() {
            int i = 0;
            for (String key : List.of("like", "true")) {
                if (i >= tokens.size() || !tokens.get(i).equals(key)) {
                    return place(i);
                }
                i = behindE(i + 1);
                if (i < 0) {
                    return -1 - i;
                }
            }
            return i < tokens.size() ? place(i) : -1;
        }

        private int place(int i) {
            return i < tokens.size() ? places.get(i) : text.length();
        }

        /** The index behind the E and its ; or -1 less the place of a fault. */
        private int behindE(int from) {
            Deque<String> open = new ArrayDeque<>();
            Deque<Boolean> compared = new ArrayDeque<>();
            boolean isDue = true;
            boolean mayNot = true;
            compared.push(false);
            for (int i = from; i < tokens.size(); i++) {
                String t = tokens.get(i);
                int fault = -1 - places.get(i);
                if (isDue) {
                    if (t.equals("(") || t.equals("-") || t.equals("not") && mayNot) {
                        if (open.size() >= 5) {
                            return fault;
                        }
                        open.push(t);
                        mayNot = t.equals("(") || t.equals("not");
                        if (t.equals("(")) {
                            compared.push(false);
                        }
                        continue;
                    }
                    if (!isOne(t)) {
                        return fault;
                    }
                    isDue = false;
                    close(open, "-");
                    continue;
                }
                if (t.equals("+") || t.equals("-") || t.equals("*")) {
                    isDue = true;
                    mayNot = false;
                } else if (t.equals("<") || t.equals("=")) {
                    if (compared.peek()) {
                        return fault;
                    }
                    compared.pop();
                    compared.push(true);
                    isDue = true;
                    mayNot = false;
                } else if (t.equals("or") || t.equals("and")) {
                    close(open, "not");
                    compared.pop();
                    compared.push(false);
                    isDue = true;
                    mayNot = true;
                } else if (t.equals(")")) {
                    close(open, "not");
                    if (open.isEmpty()) {
                        return fault;
                    }
                    open.pop();
                    compared.pop();
                    close(open, "-");
                } else if (t.equals(";")) {
                    close(open, "not");
                    return open.isEmpty() ? i + 1 : fault;
                } else {
                    return fault;
                }
            }
            return -1 - text.length();
        }

        private static void close(Deque<String> open, String sort) {
            while (!open.isEmpty() && open.peek().equals(sort)) {
                open.pop();
            }
        }
    }

    /** What tokens of an E tell: the loosest sign outside of ( ) is looked for and splits them. */
    private static int value(List<String> e, TreeMap<String, Integer> facts) {
        for (List<String> signs : List.of(List.of("or"), List.of("and"))) {
            int at = lastOutside(e, signs);
            if (at >= 0) {
                int x = value(e.subList(0, at), facts);
                int y = value(e.subList(at + 1, e.size()), facts);
                return signs.contains("or") ? (x != 0 || y != 0 ? 1 : 0) : x != 0 && y != 0 ? 1 : 0;
            }
        }
        if (e.get(0).equals("not")) {
            return value(e.subList(1, e.size()), facts) == 0 ? 1 : 0;
        }
        for (List<String> signs : List.of(List.of("<", "="), List.of("+", "-"), List.of("*"))) {
            int at = lastOutside(e, signs);
            if (at >= 0) {
                int x = value(e.subList(0, at), facts);
                int y = value(e.subList(at + 1, e.size()), facts);
                return switch (e.get(at)) {
                    case "<" -> x < y ? 1 : 0;
                    case "=" -> x == y ? 1 : 0;
                    case "+" -> x + y;
                    case "-" -> x - y;
                    default -> x * y;
                };
            }
        }
        if (e.get(0).equals("-")) {
            return -value(e.subList(1, e.size()), facts);
        }
        if (e.get(0).equals("(")) {
            return value(e.subList(1, e.size() - 1), facts);
        }
        return e.get(0).matches("[0-9]+") ? Integer.parseInt(e.get(0)) : facts.get(e.get(0));
    }

    private static int lastOutside(List<String> e, List<String> signs) {
        int deep = 0;
        for (int i = e.size() - 1; i > 0; i--) {
            deep += e.get(i).equals(")") ? 1 : e.get(i).equals("(") ? -1 : 0;
            boolean isBehindOne = e.get(i - 1).matches("[0-9]+|a|b|c|sum|kind|hour|\\)");
            if (deep == 0 && signs.contains(e.get(i)) && isBehindOne) {
                return i;
            }
        }
        return -1;
    }

    long force(int text) {
        return answer(() -> {
            one(texts, text, -2);
            int till = rule;
            rule = text;
            return till;
        });
    }

    private int judged(boolean isLike, int eye, long[] a, long[] b, int kind) {
        TreeMap<String, Integer> facts = new TreeMap<>();
        int[] takers = eyes.get(eye);
        int sum = 0;
        for (int i = 0; i < 3; i++) {
            long d = i < takers.length ? Math.abs(sees(takers[i], a) - sees(takers[i], b)) / 1000 : 0;
            facts.put("abc".substring(i, i + 1), (int) Math.min(d, 1000000));
            sum += (int) Math.min(d, 1000000);
        }
        facts.put("sum", sum);
        facts.put("kind", isLike ? takers.length : kind);
        facts.put("hour", hour);
        return value(isLike ? texts.get(rule).like : texts.get(rule).truth, facts);
    }

    long like(int eye, int a, int b) {
        if (eye < 0 || eye >= eyes.size() || a < 0 || a >= lights.size() || b < 0 || b >= lights.size()) {
            return LampHouse.NO;
        }
        return judged(true, eye, lights.get(a), lights.get(b), 0);
    }

    long mixed(int eye, int bits, int wished, int i) {
        return answer(() -> {
            one(eyes, eye, -2);
            List<Integer> told = told(bits, lights, 1, 3);
            long[] wish = one(lights, wished, -2);
            need(i >= -1 && i < told.size(), -1);
            int best = 0;
            int[] parts = null;
            for (int all = 0; all < 11 * 11 * 11; all++) {
                int[] p = {all / 121, all / 11 % 11, all % 11};
                int n = told.size();
                if (p[0] + p[1] + p[2] != 10 || n < 3 && p[2] > 0 || n < 2 && p[1] > 0) {
                    continue;
                }
                long[] made = new long[8];
                for (int c = 0; c < 8; c++) {
                    for (int k = 0; k < n; k++) {
                        made[c] += p[k] * lights.get(told.get(k))[c];
                    }
                    made[c] /= 10;
                }
                int like = judged(true, eye, made, wish, 0);
                if (parts == null || like < best) {
                    best = like;
                    parts = p;
                }
            }
            return i == -1 ? best : parts[i];
        });
    }

    private int isTrue(int eye, int thing, int x, int y) {
        return judged(false, eye, turned(lights.get(x), thing), turned(lights.get(y), thing), things.get(thing).kind);
    }

    long trueOf(int eye, int thing, int x, int y) {
        if (eye < 0 || eye >= eyes.size() || thing < 0 || thing >= things.size() || x < 0 || x >= lights.size()
                || y < 0 || y >= lights.size()) {
            return LampHouse.NO;
        }
        return isTrue(eye, thing, x, y);
    }

    long worst(int eye, int bits, int x, int y) {
        return answer(() -> {
            one(eyes, eye, -2);
            one(lights, x, -2);
            one(lights, y, -2);
            List<Integer> told = told(bits, things, 1, 32);
            int greatest = told.stream().mapToInt(t -> isTrue(eye, t, x, y)).max().orElseThrow();
            return told.stream().filter(t -> isTrue(eye, t, x, y) == greatest).findFirst().orElseThrow();
        });
    }

    long layers(int eye, int bits, int light, int wished, int i) {
        return answer(() -> {
            one(eyes, eye, -2);
            long[] from = one(lights, light, -2);
            long[] wish = one(lights, wished, -2);
            List<List<Integer>> orders = new ArrayList<>(List.of(List.of()));
            List<Integer> told = told(bits, things, 0, 5);
            // Size by size, and each size by its first ones: the first of like ones wins.
            for (int k = 0; k < orders.size(); k++) {
                for (int thing : told) {
                    if (!orders.get(k).contains(thing)) {
                        List<Integer> longer = new ArrayList<>(orders.get(k));
                        longer.add(thing);
                        orders.add(longer);
                    }
                }
            }
            List<Integer> best = null;
            int least = 0;
            for (List<Integer> order : orders) {
                long[] made = from;
                for (int thing : order) {
                    made = turned(made, thing);
                }
                int like = judged(true, eye, made, wish, 0);
                if (best == null || like < least) {
                    best = order;
                    least = like;
                }
            }
            return i == -1 ? least : i == -2 ? best.size() : one(best, i, -1);
        });
    }

    long plate(int a, int b) {
        return answer(() -> {
            one(lights, a, -2);
            one(lights, b, -2);
            room(plates, 10);
            plates.add(new int[] {a, b});
            return plates.size() - 1;
        });
    }

    private boolean isRead(int plate, int eye) {
        return !isSame(eye, lights.get(plates.get(plate)[0]), lights.get(plates.get(plate)[1]));
    }

    long reads(int eye) {
        return answer(() -> {
            one(eyes, eye, -2);
            int bits = 0;
            for (int i = 0; i < plates.size(); i++) {
                bits += isRead(i, eye) ? 1 << i : 0;
            }
            return bits;
        });
    }

    long chart(int bits) {
        return answer(() -> {
            List<Integer> told = told(bits, eyes, 0, 8);
            long[] read = told.stream().mapToLong(this::reads).toArray();
            int best = -1;
            for (int set = (1 << plates.size()) - 1; set >= 0; set--) {
                int s = set;
                long kinds = Arrays.stream(read).map(r -> r & s).distinct().count();
                if (kinds == read.length && (best == -1 || Integer.bitCount(set) <= Integer.bitCount(best))) {
                    best = set;
                }
            }
            return best;
        });
    }

    long age(int thing, int at, int hundredths) {
        return answer(() -> {
            one(things, thing, -2);
            between(at, 0, 9999);
            between(hundredths, 0, 100);
            room(ages, 40);
            ages.add(new Age(thing, at, hundredths));
            return ages.size();
        });
    }

    private int stillAt(int thing, int at) {
        TreeMap<Integer, Integer> table = new TreeMap<>();
        for (Age age : ages) {
            if (age.thing == thing) {
                table.put(age.hour, age.hundredths);
            }
        }
        if (table.isEmpty()) {
            return 100;
        }
        if (table.floorKey(at) == null) {
            return table.firstEntry().getValue();
        }
        if (table.higherKey(at) == null) {
            return table.lastEntry().getValue();
        }
        int early = table.floorKey(at);
        int late = table.higherKey(at);
        return table.get(early) + (table.get(late) - table.get(early)) * (at - early) / (late - early);
    }

    long still(int thing, int at) {
        return answer(() -> {
            one(things, thing, -2);
            between(at, 0, 9999);
            return stillAt(thing, at);
        });
    }

    long flicker(int thing, int others) {
        return answer(() -> {
            one(things, thing, -2);
            between(others, 0, 65535);
            return steps.set(thing, others);
        });
    }

    private int takes(int thing, int s, int w, int i) {
        int on = 0;
        for (int k = i * s; k <= i * s + w - 1; k++) {
            on += (steps.get(thing) & 1 << k % 16) != 0 ? 1 : 0;
        }
        return on;
    }

    private void needFilm(int n, int s, int w) {
        between(n, 1, 16);
        between(s, 0, 15);
        between(w, 1, 16);
    }

    private int striped(int thing, int n, int s, int w) {
        int[] all = new int[n];
        for (int i = 0; i < n; i++) {
            all[i] = takes(thing, s, w, i);
        }
        Arrays.sort(all);
        return all[n - 1] - all[0];
    }

    long film(int thing, int s, int w, int i) {
        return answer(() -> {
            one(things, thing, -2);
            needFilm(1, s, w);
            between(i, 0, 15);
            return takes(thing, s, w, i);
        });
    }

    long stripes(int thing, int n, int s, int w) {
        return answer(() -> {
            one(things, thing, -2);
            needFilm(n, s, w);
            return striped(thing, n, s, w);
        });
    }

    long quietest(int bits, int n, int s, int w) {
        return answer(() -> {
            List<Integer> told = told(bits, things, 1, 32);
            needFilm(n, s, w);
            return told.stream().min((a, b) -> striped(a, n, s, w) != striped(b, n, s, w)
                ? Integer.compare(striped(a, n, s, w), striped(b, n, s, w)) : Integer.compare(a, b)).orElseThrow();
        });
    }

    long filter(int row, int reading) {
        return answer(() -> {
            int[] r = one(rows, row, -2);
            between(reading, 0, 999);
            room(filters, 4);
            int[] filter = Arrays.copyOf(r, 9);
            filter[8] = reading;
            filters.add(filter);
            return filters.size() - 1;
        });
    }

    long hidden(int what, int colour) {
        return answer(() -> {
            between(what, 0, 2);
            if (what > 0) {
                between(colour, 0, 7);
            }
            int fits = 0;
            int least = 9;
            int most = -1;
            for (int all = 0; all < 65536; all++) {
                boolean isFit = true;
                for (int[] filter : filters) {
                    int sum = 0;
                    for (int c = 0; c < 8; c++) {
                        sum += (all >> 2 * c & 3) * (filter[c] % 10);
                    }
                    isFit &= sum == filter[8];
                }
                if (isFit) {
                    fits++;
                    least = Math.min(least, all >> 2 * (colour & 7) & 3);
                    most = Math.max(most, all >> 2 * (colour & 7) & 3);
                }
            }
            need(what == 0 || fits > 0, -1);
            return what == 0 ? fits : what == 1 ? least : most;
        });
    }

    long count(int what) {
        return answer(() -> {
            between(what, 0, 10);
            int[] all = {hour, rows.size(), things.size(), lights.size(), eyes.size(), texts.size(),
                tape.length(), rule, plates.size(), ages.size(), filters.size()};
            return all[what];
        });
    }

    private static int length(Object sheet) {
        return java.lang.reflect.Array.getLength(sheet);
    }

    private static int sortOf(Object sheet) {
        return sheet instanceof byte[] ? 0 : sheet instanceof short[] ? 1 : 2;
    }

    long sheet(int sheet, int sort, int n) {
        return answer(() -> {
            between(sheet, 0, 3);
            between(sort, -1, 2);
            if (sort == -1) {
                sheets[sheet] = null;
                return 1;
            }
            need(n <= 40, -2);
            need(n >= 0, -14);
            sheets[sheet] = sort == 0 ? new byte[n] : sort == 1 ? new short[n] : new int[n];
            return 1;
        });
    }

    long cell(int sheet, int i, int v) {
        return answer(() -> {
            between(sheet, 0, 3);
            need(sheets[sheet] != null, -11);
            need(i >= 0 && i < length(sheets[sheet]), -12);
            switch (sortOf(sheets[sheet])) {
                case 0 -> ((byte[]) sheets[sheet])[i] = (byte) v;
                case 1 -> ((short[]) sheets[sheet])[i] = (short) v;
                default -> ((int[]) sheets[sheet])[i] = v;
            }
            return 1;
        });
    }

    long copy(int sheet, int i, int other, int j, int n) {
        return answer(() -> {
            between(sheet, 0, 3);
            between(other, 0, 3);
            need(sheets[sheet] != null && sheets[other] != null, -11);
            need(sortOf(sheets[sheet]) == sortOf(sheets[other]), -13);
            try {
                System.arraycopy(sheets[sheet], i, sheets[other], j, n);
            } catch (IndexOutOfBoundsException outside) {
                throw new No(-12);
            }
            return n;
        });
    }

    long rowOf(int sheet, int sort, int from) {
        return answer(() -> {
            between(sheet, 0, 3);
            between(sort, 0, 2);
            Object all = sheets[sheet];
            need(all == null || sortOf(all) == sort, -13);
            need(all != null, -11);
            need(from >= 0 && from + 8L <= length(all), -12);
            int[] row = new int[8];
            for (int c = 0; c < 8; c++) {
                row[c] = java.lang.reflect.Array.getInt(all, from + c);
                need(row[c] >= 0 && row[c] <= 999, -3);
            }
            room(rows, 30);
            rows.add(row);
            return rows.size() - 1;
        });
    }

    long taken(int thing, int k) {
        return answer(() -> {
            between(k, 0, 5);
            Thing t = one(things, thing, -11);
            String[] paths = {"0", "01", "02", "013", "024", "025"};
            need(paths[t.kind].indexOf('0' + k) >= 0, -13);
            return t.number;
        });
    }
}
