import java.util.Random;

/** Long runs of calls, held against the model: all promises together. */
public final class RunsTest {
    /** What an object answers behind these is free. */
    private static final int CALLS = 512;
    private final Random random;
    private final Check check;
    private final LampHouse x = new LampHouse();
    private final Model m = new Model();
    /** Rows with few colours, so that lights are often one to an eye. */
    private final boolean isSparse;

    private RunsTest(long seed, Check check) {
        random = new Random(seed);
        isSparse = seed % 2 == 0;
        this.check = check;
    }

    private int below(int n) {
        return random.nextInt(n);
    }

    private boolean once(int in) {
        return below(in) == 0;
    }

    /** A number among those that are there, now and then one outside. */
    private int among(int n) {
        if (once(12)) {
            int[] odd = {-1, n, n + 1, -2, Integer.MAX_VALUE, Integer.MIN_VALUE, 31, 32};
            return odd[below(odd.length)];
        }
        return below(Math.max(1, n));
    }

    private int within(int least, int most) {
        if (once(12)) {
            int[] odd = {least - 1, most + 1, Integer.MAX_VALUE, Integer.MIN_VALUE};
            return odd[below(odd.length)];
        }
        return once(6) ? least : once(6) ? most : least + below(most - least + 1);
    }

    private int bits(int n, int most) {
        if (once(12)) {
            return once(2) ? random.nextInt() : once(2) ? 0 : 1 << below(32);
        }
        int told = 0;
        for (int i = below(most + 1); i >= 0; i--) {
            told |= 1 << below(Math.max(1, n));
        }
        return told;
    }

    private int there(int what) {
        return (int) m.count(what);
    }

    private long digits(int sort) {
        if (once(25)) {
            long[] odd = {-1, 1000000000000L, 999999999999L, Long.MAX_VALUE, Long.MIN_VALUE};
            return odd[below(odd.length)];
        }
        long number = 0;
        for (int i = 0; i < 4; i++) {
            int[] most = {2, 4, 10, 1000};
            number = number * 1000 + (isSparse && !once(4) ? 0 : below(most[sort]));
        }
        return number;
    }

    private int calls = 0;

    private void due(String call, long got, long want) {
        calls++;
        if (calls <= CALLS) {
            check.due(call, got, want);
        }
    }

    private String one(int deep) {
        String[] plain = {"a", "b", "c", "sum", "kind", "hour", "0", "1", "7", "9999", "0003", "12"};
        return switch (below(deep > 0 ? 8 : 4)) {
            case 4, 5 -> "(" + blank() + e(deep - 1) + ")";
            case 6 -> "-" + blank() + one(deep - 1);
            default -> plain[below(plain.length)];
        };
    }

    private String blank() {
        return once(3) ? " " : once(12) ? "\n" : "";
    }

    private String sum(int deep) {
        StringBuilder made = new StringBuilder(one(deep));
        for (int i = below(3); i > 0; i--) {
            made.append(blank()).append("+-*".charAt(below(3))).append(blank()).append(one(deep));
        }
        return made.toString();
    }

    private String not(int deep) {
        if (deep > 0 && once(4)) {
            return "not " + not(deep - 1);
        }
        return once(3) ? sum(deep) + blank() + (once(2) ? "<" : "=") + blank() + sum(deep) : sum(deep);
    }

    private String e(int deep) {
        StringBuilder made = new StringBuilder(not(deep));
        for (int i = below(6) - 3; i > 0; i--) {
            made.append(once(2) ? " or " : " and ").append(not(deep));
        }
        return made.toString();
    }

    private String spoiled(String text) {
        int at = below(text.length() + 1);
        int end = Math.min(text.length(), at + below(3));
        String[] put = {"", "(", ")", "not ", "-", "12345", " ", "x", "A", "\0", "\u00ff", ";", "<", "=", " or", " like "};
        return text.substring(0, at) + put[below(put.length)] + text.substring(end);
    }

    private String madeText() {
        int deep = below(7);
        String text = blank() + "like " + e(deep) + blank() + ";" + blank() + "true " + e(deep) + ";" + blank();
        for (int i = below(8) - 4; i > 0; i--) {
            text = spoiled(text);
        }
        return text.length() > 160 ? text.substring(0, 160) : text;
    }

    private void texts() {
        String text = once(20) ? "" : madeText();
        for (int at = 0; at < text.length();) {
            int n = Math.min(1 + below(8), text.length() - at);
            long bytes = random.nextLong() << 8 * (n - 1) << 8;
            for (int i = n - 1; i >= 0; i--) {
                bytes |= (long) (text.charAt(at + i) & 255) << 8 * i;
            }
            due("feed " + n, x.feed(n, bytes), m.feed(n, bytes));
            at += n;
        }
        due("text " + text, x.text(), m.text());
    }

    private void told() {
        int a = among(there(1));
        int b = among(there(1));
        int c = once(3) ? -1 : among(there(1));
        switch (below(9)) {
            case 0, 1 -> {
                int sort = isSparse ? 2 : below(4);
                long first = digits(sort);
                long second = digits(sort);
                due("row", x.row(first, second), m.row(first, second));
            }
            case 2, 3 -> {
                int kind = within(0, 5);
                int number = within(0, 99);
                due("thing", x.thing(kind, a, number), m.thing(kind, a, number));
            }
            case 4 -> due("light", x.light(a), m.light(a));
            case 5 -> {
                int light = among(there(3));
                int thing = among(there(2));
                int aged = within(0, 1);
                due("shine", x.shine(light, thing, aged), m.shine(light, thing, aged));
            }
            case 6 -> {
                int k = among(there(3));
                int l = among(there(3));
                due("both", x.both(k, l), m.both(k, l));
            }
            case 7 -> due("eye", x.eye(a, b, c), m.eye(a, b, c));
            default -> {
                int n = within(1, once(5) ? 1000 : 40);
                due("pass", x.pass(n), m.pass(n));
            }
        }
    }

    private void toldMore() {
        int thing = among(there(2));
        switch (below(8)) {
            case 0, 1 -> {
                int a = among(there(3));
                int b = among(there(3));
                due("plate", x.plate(a, b), m.plate(a, b));
            }
            case 2, 3 -> {
                int hour = within(0, once(2) ? 100 : 9999);
                int part = within(0, 100);
                due("age", x.age(thing, hour, part), m.age(thing, hour, part));
            }
            case 4, 5 -> {
                int steps = within(0, 65535);
                due("flicker", x.flicker(thing, steps), m.flicker(thing, steps));
            }
            case 6 -> {
                int row = among(there(1));
                int reading = once(10) ? within(0, 999) : below(40);
                due("filter", x.filter(row, reading), m.filter(row, reading));
            }
            default -> {
                int text = among(there(5));
                due("force", x.force(text), m.force(text));
            }
        }
    }

    private void asked() {
        int eye = among(there(4));
        int eyeToo = among(there(4));
        int a = among(there(3));
        int b = among(there(3));
        int i = below(8) - 2;
        int c = within(0, 7);
        int thing = among(there(2));
        int k = within(0, 5);
        switch (below(11)) {
            case 0 -> due("rowTold", x.rowTold(a, c), m.rowTold(a, c));
            case 1 -> due("thingTold", x.thingTold(thing, k), m.thingTold(thing, k));
            case 2 -> due("lightTold", x.lightTold(a, c), m.lightTold(a, c));
            case 3 -> due("seen", x.seen(eye, i, a), m.seen(eye, i, a));
            case 4 -> due("same", x.same(eye, a, b), m.same(eye, a, b));
            case 5 -> due("twins", x.twins(eye, eyeToo, i), m.twins(eye, eyeToo, i));
            case 6 -> due("like", x.like(eye, a, b), m.like(eye, a, b));
            case 7 -> due("reads", x.reads(eye), m.reads(eye));
            case 8 -> {
                int bits = bits(there(4), 4);
                due("chart", x.chart(bits), m.chart(bits));
            }
            case 9 -> {
                int what = within(0, 10);
                due("count", x.count(what), m.count(what));
            }
            default -> due("taken", x.taken(thing, k), m.taken(thing, k));
        }
    }

    private void searched() {
        int eye = among(there(4));
        int a = among(there(3));
        int b = among(there(3));
        int i = below(9) - 3;
        int thing = among(there(2));
        int things = bits(there(2), 5);
        int lights = bits(there(3), 2);
        switch (below(5)) {
            case 0 -> due("mixed", x.mixed(eye, lights, a, i), m.mixed(eye, lights, a, i));
            case 1 -> due("trueOf", x.trueOf(eye, thing, a, b), m.trueOf(eye, thing, a, b));
            case 2 -> due("worst", x.worst(eye, things, a, b), m.worst(eye, things, a, b));
            case 3 -> due("layers", x.layers(eye, things, a, b, i), m.layers(eye, things, a, b, i));
            default -> {
                int what = within(0, 2);
                int c = within(0, 7);
                due("hidden", x.hidden(what, c), m.hidden(what, c));
            }
        }
    }

    private void filmed() {
        int thing = among(there(2));
        int n = within(1, 16);
        int s = within(0, 15);
        int w = within(1, 16);
        int i = within(0, 15);
        int hour = within(0, once(2) ? 100 : 9999);
        int things = bits(there(2), 5);
        switch (below(4)) {
            case 0 -> due("film", x.film(thing, s, w, i), m.film(thing, s, w, i));
            case 1 -> due("stripes", x.stripes(thing, n, s, w), m.stripes(thing, n, s, w));
            case 2 -> due("quietest", x.quietest(things, n, s, w), m.quietest(things, n, s, w));
            default -> due("still", x.still(thing, hour), m.still(thing, hour));
        }
    }

    private void hosted() {
        int sheet = within(0, 3);
        int other = within(0, 3);
        int sort = once(20) ? -1 : within(0, 2);
        int n = within(0, 40);
        int i = once(3) ? 0 : within(0, 39);
        int j = within(0, 39);
        int few = once(3) ? n : below(10);
        switch (below(7)) {
            case 0 -> due("sheet", x.sheet(sheet, sort, n), m.sheet(sheet, sort, n));
            case 1, 2, 3 -> {
                int v = once(9) ? random.nextInt() : within(0, 999);
                due("cell", x.cell(sheet, i, v), m.cell(sheet, i, v));
            }
            case 4, 5 -> due("copy", x.copy(sheet, i, other, j, few), m.copy(sheet, i, other, j, few));
            default -> due("rowOf", x.rowOf(sheet, sort, i), m.rowOf(sheet, sort, i));
        }
    }

    private void run() {
        for (int sheet = 0; sheet < 4; sheet++) {
            int sort = below(3);
            int n = 8 + below(33);
            due("sheet", x.sheet(sheet, sort, n), m.sheet(sheet, sort, n));
        }
        while (calls < CALLS) {
            int part = below(calls < 60 ? 5 : 16);
            if (part < 3) {
                told();
            } else if (part == 3) {
                toldMore();
            } else if (part == 4) {
                if (once(6)) {
                    texts();
                } else {
                    hosted();
                }
            } else if (part < 9) {
                asked();
            } else if (part < 13) {
                searched();
            } else {
                filmed();
            }
        }
    }

    public static void main(String[] args) {
        Check check = new Check("runs");
        int runs = args.length > 0 ? Integer.parseInt(args[0]) : 150;
        for (int seed = 0; seed < runs; seed++) {
            new RunsTest(seed, check).run();
        }
        // Texts alone, many, since most of what is random in a run is no good text.
        for (int seed = 0; seed < 20 * runs; seed++) {
            RunsTest test = new RunsTest(-1L - seed, check);
            for (int i = 0; i < 8; i++) {
                test.texts();
            }
        }
        check.end();
    }
}
