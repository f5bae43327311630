/** The edges of promises 19 to 22: mixed, trueOf, worst, layers. */
public final class NearestEdgesTest {
    private static final Edges E = new Edges("nearest edges");
    private static final String LOW = "(-(2147*1000*1000+483*1000+647)-1)";
    private static final String TOP = "(2147*1000*1000+483*1000+647)";
    private static final int[] NO_SUCH = {Edges.LEAST, -4, -3, 9, Edges.MOST};

    /** Lights 0, 1, 2 and 3 of one colour each, which the eyes tell apart; light 4 as a wish. */
    private static void house(LampHouse x, int... wish) {
        Check.row(x, 900);
        Check.row(x, 0, 900);
        Check.row(x, 0, 0, 900);
        Check.row(x, 0, 0, 0, 900);
        Check.row(x, wish);
        for (int row = 0; row < 5; row++) {
            x.light(row);
        }
        x.eye(0, 1, 2);
        x.eye(0, 1, -1);
        for (int kind = 0; kind < 6; kind++) {
            x.thing(kind, kind % 5, kind);
        }
    }

    private static void forced(LampHouse x, String like, String truth) {
        house(x, 450, 450);
        x.force(Check.text(x, "like " + like + ";true " + truth + ";"));
    }

    /** "BAD: EYE, bits (others, more than 3), LIGHT". */
    private static void mixed() {
        E.house(x -> house(x, 1));
        E.range("mixed for an eye", 0, 1, (x, n) -> x.mixed(n, 1, 0, 0), -2);
        E.range("mixed to be like a light", 0, 4, (x, n) -> x.mixed(0, 1, n, 0), -2);
        E.bits("mixed of lights", 5, (x, n) -> x.mixed(0, n, 0, 0));
        E.house(Edges::full);
        E.bits("mixed of 20 lights", 20, (x, n) -> x.mixed(7, n, 0, 0));
        E.range("mixed for 8 eyes", 0, 7, (x, n) -> x.mixed(n, 1 << 19, 19, 0), -2);
    }

    /** "(bits, 1 to 3 of them)": none, 1, 2, 3, 4, 5 of them. */
    private static void lightsMixed() {
        E.house(x -> house(x, 1));
        for (int bits = 0; bits < 32; bits++) {
            int told = bits;
            int n = Integer.bitCount(bits);
            if (n >= 1 && n <= 3) {
                E.range("mixed of bits " + bits, -1, n - 1, (x, i) -> x.mixed(0, told, 4, i), -1);
            } else {
                E.refused("mixed of bits " + bits, x -> x.mixed(0, told, 4, 0), -2);
            }
        }
    }

    /** "i = -1: like of it; else the part of the i-th one of them .. NONE: no such i (below -1, too)". */
    private static void parts() {
        E.house(x -> house(x, 90, 270, 540));
        // Of two lights 1 to 7 parts of the first are like ones.
        int[][] due = {{10}, {1, 9}, {1, 3, 6}};
        for (int n = 1; n <= 3; n++) {
            int bits = (1 << n) - 1;
            for (int i = 0; i < n; i++) {
                int asked = i;
                E.due("part " + i + " of " + n, x -> x.mixed(0, bits, 4, asked), due[n - 1][i]);
            }
            E.due("like of " + n, x -> x.mixed(0, bits, 4, -1) < 0 ? 1 : 0, 0);
            for (int i : new int[] {Edges.LEAST, -3, -2, n, n + 1, Edges.MOST}) {
                E.refused("part " + i + " of " + n, x -> x.mixed(0, bits, 4, i), -1);
            }
        }
        E.due("like of three", x -> x.mixed(0, 7, 4, -1), 0);
    }

    /** "BAD ..; NONE": BAD comes first. */
    private static void badAheadOfNone() {
        E.house(x -> house(x, 1));
        for (int i : NO_SUCH) {
            E.refused("mixed: eye, i " + i, x -> x.mixed(2, 1, 0, i), -2);
            E.refused("mixed: eye -1, i " + i, x -> x.mixed(-1, 1, 0, i), -2);
            E.refused("mixed: no bits, i " + i, x -> x.mixed(0, 0, 0, i), -2);
            E.refused("mixed: 4 bits, i " + i, x -> x.mixed(0, 15, 0, i), -2);
            E.refused("mixed: another bit, i " + i, x -> x.mixed(0, 32, 0, i), -2);
            E.refused("mixed: wish 5, i " + i, x -> x.mixed(0, 1, 5, i), -2);
            E.refused("mixed: wish -1, i " + i, x -> x.mixed(0, 1, -1, i), -2);
            E.refused("layers: eye, i " + i, x -> x.layers(2, 1, 0, 0, i), -2);
            E.refused("layers: eye -1, i " + i, x -> x.layers(-1, 1, 0, 0, i), -2);
            E.refused("layers: light 5, i " + i, x -> x.layers(0, 1, 5, 0, i), -2);
            E.refused("layers: light -1, i " + i, x -> x.layers(0, 1, -1, 0, i), -2);
            E.refused("layers: wish 5, i " + i, x -> x.layers(0, 1, 0, 5, i), -2);
            E.refused("layers: wish -1, i " + i, x -> x.layers(0, 1, 0, -1, i), -2);
            E.refused("layers: another bit, i " + i, x -> x.layers(0, 64, 0, 0, i), -2);
            E.refused("layers: 6 bits, i " + i, x -> x.layers(0, 63, 0, 0, i), -2);
        }
    }

    private static void mixture(String like, int eye, int bits, int... due) {
        E.house(x -> forced(x, like, "1"));
        for (int i = 0; i < due.length; i++) {
            int asked = i;
            E.due("like " + like + ": part " + i, x -> x.mixed(eye, bits, 4, asked), due[i]);
        }
    }

    /** "parts of 10 of each (0 .. 10, 10 together)": all of one light; and no more than all. */
    private static void partsAtTheirEnds() {
        for (int which = 0; which < 3; which++) {
            int wish = which;
            E.house(x -> house(x, 0));
            for (int i = 0; i < 3; i++) {
                int asked = i;
                E.due("to be light " + which + ": part " + i, x -> x.mixed(0, 7, wish, asked), i == which ? 10 : 0);
            }
            E.due("to be light " + which + ": like", x -> x.mixed(0, 7, wish, -1), 0);
        }
        for (int part = 0; part <= 10; part++) {
            int first = part;
            E.house(x -> house(x, 90 * first, 900 - 90 * first));
            E.due("part 0 for " + part, x -> x.mixed(0, 3, 4, 0), part);
            E.due("part 1 for " + part, x -> x.mixed(0, 3, 4, 1), 10 - part);
            E.due("part 0 of three for " + part, x -> x.mixed(0, 7, 4, 0), part);
            E.due("part 2 of three for " + part, x -> x.mixed(0, 7, 4, 2), 0);
        }
    }

    /** "of like ones the first LIGHT has the least part, then the second one". */
    private static void likeMixtures() {
        mixture("7", 0, 1, 10);
        mixture("7", 0, 3, 0, 10);
        mixture("7", 0, 7, 0, 0, 10);
        mixture("7", 0, 28, 0, 0, 10);
        // a is 405 less 81 for each part of light 0: none of a tells the other two apart.
        mixture("a", 0, 7, 5, 0, 5);
        mixture("b", 0, 7, 0, 5, 5);
        mixture("c", 0, 7, 0, 10, 0);
        mixture("not (a<81)", 0, 7, 5, 0, 5);
        mixture("not (a<82)", 0, 7, 4, 0, 6);
        mixture("not (a=0 or a=405 and b=0)", 0, 7, 0, 5, 5);
        mixture("not (a=324 and b=162)", 0, 7, 1, 3, 6);
        mixture("not b=162", 0, 7, 0, 3, 7);
        mixture(LOW, 0, 7, 0, 0, 10);
        mixture(TOP, 0, 7, 0, 0, 10);
        mixture("-a", 0, 7, 0, 0, 10);
        mixture("-a-b", 0, 7, 0, 0, 10);
        mixture("-b-c", 0, 6, 0, 10);
    }

    /** "like of it (0 .. as an int)": also where a text tells the least and the most of an int, or less than 0. */
    private static void likeOfMixture() {
        String[] texts = {LOW, LOW + "+1", "-2", "-1", "0", "1", TOP};
        long[] due = {Edges.LEAST, Edges.LEAST + 1, -2, -1, 0, 1, Edges.MOST};
        for (int i = 0; i < texts.length; i++) {
            String like = texts[i];
            E.house(x -> forced(x, like, "1"));
            E.due("mixed: like " + like, x -> x.mixed(0, 7, 4, -1), due[i]);
            E.due("layers: like " + like, x -> x.layers(0, 31, 0, 4, -1), due[i]);
            E.due("layers: how many of like " + like, x -> x.layers(0, 31, 0, 4, -2), 0);
            E.refused("layers: none is the first of like " + like, x -> x.layers(0, 31, 0, 4, 0), -1);
        }
    }

    /** "for an EYE": of the eye asked for, at the hour it is; nothing is left of what was asked before. */
    private static void likeForAnEye() {
        E.house(x -> forced(x, "10*kind+hour", "1"));
        int[] takers = {3, 2};
        for (int eye = 0; eye < 2; eye++) {
            int asked = eye;
            E.due("mixed for eye " + eye, x -> x.mixed(asked, 7, 4, -1), 10 * takers[eye]);
            E.due("layers for eye " + eye, x -> x.layers(asked, 31, 0, 4, -1), 10 * takers[eye]);
            E.then("mixed an hour later", x -> x.pass(1), x -> x.mixed(asked, 7, 4, -1), 10 * takers[eye] + 1);
            E.then("layers an hour later", x -> x.pass(1), x -> x.layers(asked, 31, 0, 4, -1), 10 * takers[eye] + 1);
        }
        E.house(x -> house(x, 450, 450));
        E.then("mixed behind what was liker", x -> x.mixed(0, 3, 4, -1), x -> x.mixed(0, 4, 4, -1), 405 + 405 + 810);
        E.then("mixed of others", x -> x.mixed(0, 3, 4, 0), x -> x.mixed(0, 4, 4, 0), 10);
        E.then("layers behind what was liker", x -> x.layers(0, 4, 0, 4, -1), x -> x.layers(0, 2, 0, 4, -1), 810);
        E.then("layers of others", x -> x.layers(0, 4, 0, 4, -2), x -> x.layers(0, 2, 0, 4, -2), 0);
        E.then("layers behind mixed", x -> x.mixed(0, 3, 4, -1), x -> x.layers(0, 4, 0, 4, 0), 2);
        E.then("mixed behind layers", x -> x.layers(0, 4, 0, 0, -1), x -> x.mixed(0, 3, 4, 0), 5);
    }

    /** "number by number the sum of parts times what is there, by 10", cut. */
    private static void mixtureIsCut() {
        for (int n = 1; n <= 21; n++) {
            int there = n;
            E.house(x -> {
                Check.row(x, there);
                Check.row(x);
                Check.row(x, 999);
                x.light(0);
                x.light(1);
                x.eye(2, 2, -1);
                x.force(Check.text(x, "like -(0<a);true 1;"));
            });
            // Seen by 999 a sum of 2 is the first that is 1 by 1000: as few parts as give 2.
            int due = n < 2 ? 0 : (20 + n - 1) / n;
            E.due("parts of " + n + " that make 2", x -> x.mixed(0, 3, 1, 0), due);
        }
    }

    /** "TRUE of a THING. NO: none such." */
    private static void trueOf() {
        E.house(x -> house(x, 1));
        E.range("trueOf for an eye", 0, 1, (x, n) -> x.trueOf(n, 0, 0, 0), Edges.NO);
        E.range("trueOf of a thing", 0, 5, (x, n) -> x.trueOf(0, n, 0, 0), Edges.NO);
        E.range("trueOf, the one", 0, 4, (x, n) -> x.trueOf(0, 0, n, 0), Edges.NO);
        E.range("trueOf, the other", 0, 4, (x, n) -> x.trueOf(0, 0, 0, n), Edges.NO);
        E.refused("none of them", x -> x.trueOf(2, 6, 5, 5), Edges.NO);
        E.house(Edges::full);
        E.range("trueOf of 20 things", 0, 19, (x, n) -> x.trueOf(7, n, 19, 19), Edges.NO);
        E.house(x -> forced(x, "1", LOW));
        E.due("the least of an int", x -> x.trueOf(0, 0, 0, 0), Edges.LEAST);
        E.house(x -> forced(x, "1", TOP));
        E.due("the most of an int", x -> x.trueOf(0, 0, 0, 0), Edges.MOST);
    }

    /** "WORST of THINGS (bits, some). BAD." */
    private static void worst() {
        E.house(x -> house(x, 1));
        E.range("worst for an eye", 0, 1, (x, n) -> x.worst(n, 1, 0, 0), -2);
        E.range("worst, the one", 0, 4, (x, n) -> x.worst(0, 1, n, 0), -2);
        E.range("worst, the other", 0, 4, (x, n) -> x.worst(0, 1, 0, n), -2);
        E.bits("worst of things", 6, (x, n) -> x.worst(0, n, 0, 0));
        E.refused("no bits", x -> x.worst(0, 0, 0, 0), -2);
        E.refused("none of them", x -> x.worst(2, 64, 5, 5), -2);
        E.due("of all", x -> x.worst(0, 63, 0, 0), 0);
        E.house(Edges::full);
        E.bits("worst of 20 things", 20, (x, n) -> x.worst(7, n, 0, 0));
        E.due("of 20", x -> x.worst(7, (1 << 20) - 1, 0, 0), 0);
        E.due("the last alone", x -> x.worst(7, 1 << 19, 0, 0), 19);
    }

    /** "for which that is greatest, of like ones the least", whatever the text tells. */
    private static void worstOfLikeOnes() {
        for (String like : new String[] {LOW, "-1", "0", "1", TOP}) {
            E.house(x -> forced(x, "1", like));
            for (int first = 0; first < 6; first++) {
                int from = first;
                E.due("true " + like + ": worst from " + first, x -> x.worst(0, 63 & -1 << from, 0, 1), first);
            }
        }
        String[] texts = {"kind", "-kind", "not (kind=3)", "kind=3", "kind<3", LOW + "+kind", "kind+" + TOP};
        int[] due = {5, 0, 0, 3, 0, 5, 0};
        for (int i = 0; i < texts.length; i++) {
            String text = texts[i];
            E.house(x -> forced(x, "1", text));
            E.due("true " + text + ": worst", x -> x.worst(0, 63, 0, 1), due[i]);
        }
    }

    /** "BAD: EYE, LIGHTS, bits (others, more than 5)". */
    private static void layers() {
        E.house(x -> house(x, 1));
        E.range("layers for an eye", 0, 1, (x, n) -> x.layers(n, 1, 0, 0, -2), -2);
        E.range("layers of a light", 0, 4, (x, n) -> x.layers(0, 1, n, 0, -2), -2);
        E.range("layers to a wish", 0, 4, (x, n) -> x.layers(0, 1, 0, n, -2), -2);
        E.bits("layers of things", 6, (x, n) -> x.layers(0, n, 0, 0, -2));
        E.house(Edges::full);
        E.bits("layers of 20 things", 20, (x, n) -> x.layers(7, n, 0, 0, -2));
        E.house(x -> house(x, 1));
        for (int bits = 0; bits < 64; bits++) {
            int told = bits;
            if (Integer.bitCount(bits) <= 5) {
                E.due("layers of bits " + bits, x -> x.layers(0, told, 0, 0, -2), 0);
            } else {
                E.refused("layers of bits " + bits, x -> x.layers(0, told, 0, 0, -2), -2);
            }
        }
    }

    /** Things that each take a tenth away, and a wish so far that n of them come nearest. */
    private static void laid(LampHouse x, int n) {
        Check.row(x, 999);
        Check.row(x, 900);
        int left = 999;
        for (int i = 0; i < n; i++) {
            left = left * 900 / 1000;
        }
        Check.row(x, left);
        x.light(0);
        x.light(2);
        x.eye(0, 0, -1);
        for (int i = 0; i < 7; i++) {
            x.thing(0, 1, 0);
        }
    }

    /** "some (none, too) in an order"; "i = -1: like ..; -2: how many; else the i-th THING .. NONE: no such i". */
    private static void layersLaid() {
        int five = 2 | 4 | 16 | 32 | 64;
        int[] things = {1, 2, 4, 5, 6};
        for (int n = 0; n <= 5; n++) {
            int due = n;
            E.house(x -> laid(x, due));
            E.due("how many of " + n, x -> x.layers(0, five, 0, 1, -2), n);
            E.due("like of " + n, x -> x.layers(0, five, 0, 1, -1), 0);
            for (int i = 0; i < n; i++) {
                int asked = i;
                E.due("the " + i + "-th of " + n, x -> x.layers(0, five, 0, 1, asked), things[i]);
            }
            for (int i : new int[] {Edges.LEAST, -4, -3, n, n + 1, 5, 6, Edges.MOST}) {
                E.refused("the " + i + "-th of " + n, x -> x.layers(0, five, 0, 1, i), -1);
            }
        }
        E.house(x -> laid(x, 6));
        E.due("five of six that were due", x -> x.layers(0, five, 0, 1, -2), 5);
        E.house(x -> laid(x, 3));
        E.due("two of three that were due", x -> x.layers(0, 3, 0, 1, -2), 2);
        E.due("none of no bits", x -> x.layers(0, 0, 0, 1, -2), 0);
        E.refused("the first of no bits", x -> x.layers(0, 0, 0, 1, 0), -1);
    }

    private static void order(String like, int bits, int... due) {
        E.house(x -> forced(x, like, "1"));
        E.due("like " + like + ": how many", x -> x.layers(0, bits, 0, 4, -2), due.length);
        for (int i = 0; i < due.length; i++) {
            int asked = i;
            E.due("like " + like + ": the " + i + "-th", x -> x.layers(0, bits, 0, 4, asked), due[i]);
        }
    }

    /** What things 0 .. 5 leave of colour 0, of which light 0 has 900 and the wish 450: 810, 0, 450, 0, 652, 812. */
    private static void fewestLayers() {
        order("0", 62);
        order("a", 4, 2);
        order("a", 12, 2);
        order("a", 16, 4);
        order("not (a<300)", 37, 2);
        order("not (a<300)", 33, 0, 5);
        order("not (a<325)", 33, 0);
        order("not (a<400)", 10);
    }

    /** "of like ones the fewest; of like ones the first THING is the least, then the second one". */
    private static void likeOrders() {
        order("not (a<400)", 61, 0);
        order("not (a<400)", 62, 2);
        order("not (a<400)", 58, 4);
        order("not (a<400)", 42, 5);
        // Things 0 and 5 leave 730 in each order, 0 and 2 leave 405.
        order("a", 33, 0, 5);
        order("not (a=40)", 5, 0, 2);
        // Only the lamp, thing 1, sends colour 1: 900, of which 2, 4 and 5 leave 450, 652 and 225.
        order("b", 6, 1, 2);
        order("b", 54, 1, 2);
        order("not (b<405)", 63 ^ 8, 1, 2);
        order("not (b<405)", 50, 1, 4);
        order("not (b<405)", 34, 1, 5);
        // 2 and 4 leave 326 in each order.
        order("not (b=111)", 22, 1, 2, 4);
    }

    /** A light of c0, c1, 999, 999 doubled 19 times, three things that glow to colour 1, and a taker for each need. */
    private static final class Glow {
        static final long DOUBLED = 1L << 19;
        static final long DROP = 999 * DOUBLED * 7 / 8;
        final int[] light;
        final int[] thing;
        final long much;
        final long start;
        final int weight;

        Glow(int c0, int c1, int r0, int r1) {
            light = new int[] {c0, c1, 999, 999};
            thing = new int[] {r0, r1};
            start = c1 * DOUBLED;
            long x = c0 * DOUBLED;
            long y = start;
            for (int i = 0; i < 3; i++) {
                y = y * (500 + r1 / 2) / 1000 + x / 2;
                x = x * (500 + r0 / 2) / 1000;
            }
            much = y;
            weight = (int) (999 * (1000000000 - start) / DROP);
        }

        /** What taker 0 tells, if so much comes to colour 1: colours 2 and 3 make up for most of that. */
        long told(long comes) {
            return (999 * (comes - start) - weight * DROP) / 1000;
        }

        void build(LampHouse x) {
            Check.row(x, light);
            Check.row(x, thing);
            Check.row(x, 0, 999, Math.min(weight, 999), Math.max(weight - 999, 0));
            Check.row(x, 0, 1);
            x.light(0);
            for (int i = 0; i < 19; i++) {
                x.both(i, i);
            }
            for (int number = 1; number < 20; number += 8) {
                x.thing(4, 1, number);
            }
            x.eye(2, 3, -1);
            long all = (999000000 - start) / 1000000;
            x.force(Check.text(x, "like (b<" + all + "*1000)*9999*9999+a;true 1;"));
        }
    }

    /** "a LIGHT (8 numbers, 0 .. 1000000000 each; above that it is that)": so much comes by layers alone. */
    private static void mostOfALight() {
        int[][] glows = {{921, 985, 972, 778}, {794, 906, 972, 908}, {801, 906, 986, 898}, {924, 603, 894, 994},
            {986, 705, 952, 858}, {999, 999, 998, 998}};
        long[] comes = {999999998, 999999999, 1000000000, 1000000001, 1000000002, 1306269053};
        for (int i = 0; i < glows.length; i++) {
            Glow glow = new Glow(glows[i][0], glows[i][1], glows[i][2], glows[i][3]);
            long most = Math.min(comes[i], 1000000000);
            E.house(glow::build);
            E.due("the test's own sum", x -> glow.much, comes[i]);
            E.due("one more or less shows", x -> glow.told(most) != glow.told(most + 1)
                && glow.told(most) != glow.told(most - 1) ? 1 : 0, 1);
            E.due("all three layers", x -> x.layers(0, 7, 19, 19, -2), 3);
            E.due("of " + comes[i] + " comes " + most, x -> x.layers(0, 7, 19, 19, -1), glow.told(most));
        }
    }

    public static void main(String[] args) {
        mixed();
        lightsMixed();
        parts();
        badAheadOfNone();
        partsAtTheirEnds();
        likeMixtures();
        likeOfMixture();
        likeForAnEye();
        mixtureIsCut();
        trueOf();
        worst();
        worstOfLikeOnes();
        layers();
        layersLaid();
        fewestLayers();
        likeOrders();
        mostOfALight();
        E.end();
    }
}
