/** The edges of what "Terms" says an E tells: an int that wraps, truth, a, b, c, sum, kind, hour. */
public final class ValueEdgesTest {
    private static final Edges E = new Edges("value edges");
    private static final String TOP = "(2147*1000*1000+483*1000+647)";
    private static final String LOW = "(-" + TOP + "-1)";
    private static final int MOST = 2147483647;
    private static final int LEAST = -2147483648;

    private static void says(String e, long due) {
        E.house(x -> {
            Edges.some(x);
            x.text();
            x.force(Check.text(x, "like " + e + ";true 0;"));
        });
        E.due("like " + e, x -> x.like(0, 0, 1), due);
        E.house(x -> {
            Edges.some(x);
            x.text();
            x.force(Check.text(x, "like 0;true " + e + ";"));
        });
        E.due("true " + e, x -> x.trueOf(0, 0, 0, 1), due);
    }

    /** "An E is an int (32 bits, wrapping)". */
    private static void wraps() {
        says(TOP, MOST);
        says(TOP + "-1", MOST - 1);
        says(TOP + "+1", LEAST);
        says(TOP + "+2", LEAST + 1);
        says("-" + TOP, -MOST);
        says(LOW, LEAST);
        says(LOW + "-1", MOST);
        says(LOW + "+1", -MOST);
        says("-" + LOW, LEAST);
        says("0-" + LOW, LEAST);
        says(TOP + "*2", -2);
        says(LOW + "*2", 0);
        says(LOW + "*-1", LEAST);
        says("256*256*256*127", 2130706432);
        says("256*256*256*128", LEAST);
        says("256*256*256*256", 0);
        says("9999*9999*9999", -1027349969);
        says("9999", 9999);
        says("0000", 0);
        says("0", 0);
        says("-0", 0);
        says("0-9999", -9999);
    }

    /** "of or, and, not, <, = 1 or 0 (what is not 0 is true)". */
    private static void truth() {
        String[] all = {"0", "1", "2", "(-1)", "9999", LOW, "(256*256*256*256)"};
        for (int i = 0; i < all.length; i++) {
            boolean is = i > 0 && i < all.length - 1;
            says("not " + all[i], is ? 0 : 1);
            says("not not " + all[i], is ? 1 : 0);
            for (int j = 0; j < all.length; j++) {
                boolean isToo = j > 0 && j < all.length - 1;
                says(all[i] + " or " + all[j], is || isToo ? 1 : 0);
                says(all[i] + " and " + all[j], is && isToo ? 1 : 0);
            }
        }
    }

    /** Numbers and their neighbours, with the sign, at the ends of an int too. */
    private static void compares() {
        String[] texts = {LOW, LOW + "+1", "-1", "0", "1", "9998", "9999", TOP + "-1", TOP};
        for (int i = 0; i < texts.length; i++) {
            for (int j = 0; j < texts.length; j++) {
                if (texts[i].length() + texts[j].length() < 100) {
                    says(texts[i] + "<" + texts[j], i < j ? 1 : 0);
                    says(texts[i] + "=" + texts[j], i == j ? 1 : 0);
                }
            }
        }
        says(TOP + "<" + TOP + "+1", 0);
        says("256*256*256*256=0", 1);
        says("0=-0", 1);
    }

    /** Of a text that reaches over all of its names: what it tells of two lights that are so much unlike. */
    private static void unlike(String name, Edges.Build house, int eye, long due) {
        E.house(x -> {
            house.on(x);
            x.force(Check.text(x, "like " + name + ";true " + name + "*2;"));
        });
        E.due(name + " of eye " + eye, x -> x.like(eye, 0, 1), due);
        E.due(name + " of eye " + eye + ", the other way", x -> x.like(eye, 1, 0), due);
    }

    /** Taker 3 sees 1 of colour 0, 2 of colour 1; light 0 has those, light 1 nothing; taker 4 sees nothing. */
    private static void byThousand(int first, int second, int due) {
        Edges.Build house = x -> {
            Check.row(x, first, second);
            Check.row(x);
            Check.row(x, 1, 2);
            x.light(0);
            x.light(1);
            x.eye(2, 1, 1);
            x.eye(1, 2, 1);
            x.eye(1, 1, 2);
            x.eye(2, 2, 2);
            x.eye(2, 2, -1);
        };
        String[] names = {"a", "b", "c"};
        for (int taker = 0; taker < 3; taker++) {
            for (int eye = 0; eye < 3; eye++) {
                unlike(names[taker], house, eye, taker == eye ? due : 0);
            }
            unlike("sum", house, taker, due);
            unlike(names[taker], house, 3, due);
            unlike(names[taker], house, 4, taker < 2 ? due : 0);
        }
        unlike("sum", house, 3, 3 * due);
        unlike("sum", house, 4, 2 * due);
    }

    /** "by how much TAKER 0, 1, 2 sees more or less .. (without its sign) by 1000 (c 0 without TAKER 2". */
    private static void thousands() {
        byThousand(0, 0, 0);
        byThousand(1, 0, 0);
        byThousand(998, 0, 0);
        byThousand(999, 0, 0);
        byThousand(0, 500, 1);
        byThousand(1, 500, 1);
        byThousand(998, 500, 1);
        byThousand(999, 500, 1);
        byThousand(998, 501, 2);
        byThousand(999, 501, 2);
        byThousand(999, 999, 2);
    }

    /**
     * Light 0 is a row doubled 11 times, light 1 a row: to a taker of 500 and 1 these are 500 times
     * (base times 2048, less b0), less b1, unlike.
     */
    private static void capped(int base, int b0, int b1, long apart, int due) {
        E.due("the test's own sum", x -> 500L * (2048L * base - b0) - b1, apart);
        Edges.Build house = x -> {
            Check.row(x, base);
            Check.row(x, b0, b1);
            Check.row(x, 500, 1);
            x.light(0);
            x.light(1);
            x.light(0);
            for (int i = 2; i < 13; i++) {
                x.both(i, i);
            }
            x.eye(2, 2, 2);
            x.eye(2, 2, -1);
            x.thing(2, 0, 0);
        };
        for (String text : new String[] {"a", "b", "c", "sum"}) {
            E.house(x -> {
                house.on(x);
                x.force(Check.text(x, "like " + text + ";true 1;"));
            });
            E.due(text + " of " + apart, x -> x.like(0, 13, 1), text.equals("sum") ? 3L * due : due);
            E.due(text + " of " + apart + ", the other way", x -> x.like(0, 1, 13), text.equals("sum") ? 3L * due : due);
        }
        E.house(house);
        E.due("text 0: like of " + apart, x -> x.like(0, 13, 1), 3L * due);
        E.due("text 0: like to an eye of two of " + apart, x -> x.like(1, 1, 13), 2L * due);
    }

    /** "each 1000000 at most", and "sum: these together". */
    private static void millions() {
        capped(977, 898, 1, 999998999L, 999998);
        capped(977, 898, 0, 999999000L, 999999);
        capped(977, 896, 1, 999999999L, 999999);
        capped(977, 896, 0, 1000000000L, 1000000);
        capped(977, 895, 499, 1000000001L, 1000000);
        capped(977, 894, 1, 1000000999L, 1000000);
        capped(977, 894, 0, 1000001000L, 1000000);
        capped(978, 944, 1, 1000999999L, 1000000);
        capped(978, 944, 0, 1001000000L, 1000000);
        capped(999, 0, 0, 1022976000L, 1000000);
    }

    /** TEXT 0 is "like sum ; true a + b + c": each of its takers sees another part. */
    private static void textZero() {
        for (int taker = 0; taker < 3; taker++) {
            int which = taker;
            E.house(x -> {
                Check.row(x, 999);
                Check.row(x);
                x.light(0);
                x.light(1);
                x.eye(which == 0 ? 0 : 1, which == 1 ? 0 : 1, which == 2 ? 0 : 1);
                x.thing(0, 0, 0);
            });
            E.due("text 0: like by taker " + taker, x -> x.like(0, 0, 1), 998);
            E.due("text 0: true by taker " + taker, x -> x.trueOf(0, 0, 0, 1), 997);
            E.due("text 0 is the rule at first", x -> x.count(7), 0);
        }
    }

    /** A glass of 999 lets all but a thousandth pass: what is unlike by more than a million is so behind it, too. */
    private static void trueOfMillions() {
        E.house(x -> {
            Check.row(x, 999);
            Check.row(x);
            x.light(0);
            for (int i = 0; i < 11; i++) {
                x.both(i, i);
            }
            x.light(1);
            x.eye(0, 0, 0);
            x.eye(0, 0, -1);
            x.thing(2, 0, 0);
            x.thing(0, 1, 0);
        });
        E.due("text 0: true of three", x -> x.trueOf(0, 0, 11, 12), 3000000);
        E.due("text 0: true of two", x -> x.trueOf(1, 0, 11, 12), 2000000);
        // 511488 by the glass is 510976, times 999 by 1000 is 510465.
        E.due("text 0: true below it", x -> x.trueOf(1, 0, 9, 12), 2 * 510465);
        E.due("text 0: true of what throws nothing back", x -> x.trueOf(0, 1, 11, 12), 0);
    }

    /** like: "kind: how many TAKERS"; true: "kind: the KIND of a THING"; "hour: HOUR". */
    private static void kindAndHour() {
        E.house(x -> {
            Edges.some(x);
            x.text();
            for (int kind = 0; kind < 6; kind++) {
                x.thing(kind, 0, 50);
            }
            x.force(Check.text(x, "like kind;true kind;"));
        });
        E.due("like of two takers", x -> x.like(0, 0, 1), 2);
        E.due("like of three takers", x -> x.like(1, 0, 1), 3);
        for (int kind = 0; kind < 6; kind++) {
            int thing = 2 + kind;
            E.due("true of kind " + kind, x -> x.trueOf(0, thing, 0, 1), kind);
            E.due("true of kind " + kind + ", three takers", x -> x.trueOf(1, thing, 0, 1), kind);
        }
        for (int hour : new int[] {0, 1, 9998, 9999}) {
            E.house(x -> {
                x.row(1, 0);
                x.light(0);
                x.eye(0, 0, -1);
                x.thing(0, 0, 0);
                x.force(Check.text(x, "like hour;true hour;"));
                for (int left = hour; left > 0; left -= 1000) {
                    x.pass(Math.min(left, 1000));
                }
            });
            E.due("like at hour " + hour, x -> x.like(0, 0, 0), hour);
            E.due("true at hour " + hour, x -> x.trueOf(0, 0, 0, 0), hour);
        }
    }

    public static void main(String[] args) {
        wraps();
        truth();
        compares();
        thousands();
        millions();
        textZero();
        trueOfMillions();
        kindAndHour();
        E.end();
    }
}
