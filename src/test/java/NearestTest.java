/** Promises 19 to 22: mixed, true, worst, layers. */
public final class NearestTest {
    private static final Check CHECK = new Check("nearest");

    /** Lights of one colour each, an eye that tells these apart, and a wish between. */
    private static LampHouse house() {
        LampHouse x = new LampHouse();
        Check.row(x, 900);
        Check.row(x, 0, 900);
        Check.row(x, 0, 0, 900);
        Check.row(x, 270, 450, 180);
        Check.row(x, 900, 900, 900);
        x.eye(0, 1, 2);
        x.eye(0, 0, -1);
        x.eye(4, 4, -1);
        for (int row = 0; row < 5; row++) {
            x.light(row);
        }
        return x;
    }

    private static void mixed() {
        LampHouse x = house();
        CHECK.due("like of it", x.mixed(0, 7, 3, -1), 0);
        CHECK.due("part 0", x.mixed(0, 7, 3, 0), 3);
        CHECK.due("part 1", x.mixed(0, 7, 3, 1), 5);
        CHECK.due("part 2", x.mixed(0, 7, 3, 2), 2);
        CHECK.due("part 3", x.mixed(0, 7, 3, 3), -1);
        CHECK.due("i -2", x.mixed(0, 7, 3, -2), -1);
        CHECK.due("two, like", x.mixed(0, 6, 3, -1), 243 + 162 + 81);
        // From 5 to 8 parts of light 1 are like ones: the first has the least.
        CHECK.due("two, part 0", x.mixed(0, 6, 3, 0), 5);
        CHECK.due("two, part 1", x.mixed(0, 6, 3, 1), 5);
        CHECK.due("two, part 2", x.mixed(0, 6, 3, 2), -1);
        CHECK.due("one", x.mixed(0, 4, 3, 0), 10);
        CHECK.due("one, like", x.mixed(0, 4, 3, -1), 243 + 405 + 648);
        CHECK.due("one, part 1", x.mixed(0, 4, 3, 1), -1);
        // All mixtures are one to eye 2: the first light has the least part, then the second one.
        CHECK.due("like ones, 0", x.mixed(2, 7, 4, 0), 0);
        CHECK.due("like ones, 1", x.mixed(2, 7, 4, 1), 0);
        CHECK.due("like ones, 2", x.mixed(2, 7, 4, 2), 10);
        CHECK.due("like ones, like", x.mixed(2, 7, 4, -1), 2 * 1620);
        CHECK.due("the wish among them", x.mixed(0, 9, 3, 1), 10);
    }

    private static void mixedIsCut() {
        LampHouse x = new LampHouse();
        Check.row(x, 9);
        Check.row(x, 6);
        Check.row(x, 999);
        x.light(0);
        x.light(1);
        x.eye(2, 2, -1);
        Check.text(x, "like 0-sum;true 1;");
        x.force(1);
        // The farthest of 6 .. 9 from 9 has 0 parts of light 0, or too few for one more.
        CHECK.due("like below 0", x.mixed(0, 3, 0, -1), -4);
        CHECK.due("part 0", x.mixed(0, 3, 0, 0), 0);
        Check.text(x, "like sum<4;true 1;");
        x.force(2);
        CHECK.due("part 0", x.mixed(0, 3, 0, 0), 0);
        Check.text(x, "like not(a=1);true 1;");
        x.force(3);
        // a is 1 where 7 comes, which is 2 off: 3 parts make 69 by 10, 4 parts 72.
        CHECK.due("the least part of which 7 comes", x.mixed(0, 3, 0, 0), 4);
    }

    private static void trueOf() {
        LampHouse x = house();
        x.thing(0, 4, 0);
        x.thing(2, 4, 0);
        x.thing(1, 3, 0);
        x.thing(5, 3, 0);
        // A thing throws 810 of 900 back; 810 * 900 by 1000 is 729.
        CHECK.due("of a thing", x.trueOf(0, 0, 0, 1), 729 + 729);
        CHECK.due("of a glass", x.trueOf(0, 1, 0, 1), 855 * 900 / 1000 * 2);
        CHECK.due("of a lamp", x.trueOf(0, 2, 0, 1), 243 * 900 / 1000 + 405 * 900 / 1000);
        CHECK.due("x and y alike", x.trueOf(0, 0, 4, 4), 0);
        x.age(0, 0, 0);
        CHECK.due("not aged", x.trueOf(0, 0, 0, 1), 729 + 729);
        Check.text(x, "like 1;true 10*kind+hour;");
        x.force(1);
        x.pass(3);
        CHECK.due("kind and hour", x.trueOf(0, 3, 0, 1), 53);
        CHECK.due("like is not true", x.like(0, 0, 1), 1);
    }

    private static void worst() {
        LampHouse x = house();
        x.thing(0, 0, 0);
        x.thing(0, 4, 0);
        x.thing(2, 4, 0);
        x.thing(2, 4, 0);
        CHECK.due("of all", x.worst(0, 15, 0, 1), 2);
        CHECK.due("of the first two", x.worst(0, 3, 0, 1), 1);
        CHECK.due("of the last", x.worst(0, 8, 0, 1), 3);
        CHECK.due("of like ones", x.worst(0, 15, 4, 4), 0);
        Check.text(x, "like 1;true -a-1;");
        x.force(1);
        CHECK.due("below 0", x.worst(0, 14, 0, 1), 1);
    }

    private static void layers() {
        LampHouse x = new LampHouse();
        Check.row(x, 500);
        Check.row(x, 999);
        Check.row(x, 750);
        Check.row(x, 374);
        x.light(0);
        x.light(2);
        x.light(3);
        x.eye(1, 1, -1);
        x.thing(1, 0, 0);
        x.thing(0, 0, 0);
        x.thing(0, 0, 0);
        // The lamp makes 250 + 500 of 500, the thing half of it.
        CHECK.due("none is best", x.layers(0, 7, 0, 0, -2), 0);
        CHECK.due("none is best, like", x.layers(0, 7, 0, 0, -1), 0);
        CHECK.due("none is best, first", x.layers(0, 7, 0, 0, 0), -1);
        CHECK.due("one", x.layers(0, 7, 0, 1, -2), 1);
        CHECK.due("one, like", x.layers(0, 7, 0, 1, -1), 0);
        CHECK.due("one, first", x.layers(0, 7, 0, 1, 0), 0);
        CHECK.due("one, second", x.layers(0, 7, 0, 1, 1), -1);
        // 375 by the lamp and then a thing; things 1 and 2 are like ones.
        CHECK.due("two", x.layers(0, 7, 0, 2, -2), 2);
        CHECK.due("two, like", x.layers(0, 7, 0, 2, -1), 0);
        CHECK.due("two, first", x.layers(0, 7, 0, 2, 0), 0);
        CHECK.due("two, second", x.layers(0, 7, 0, 2, 1), 1);
        CHECK.due("two, third", x.layers(0, 7, 0, 2, 2), -1);
        CHECK.due("two without 1", x.layers(0, 5, 0, 2, 1), 2);
        CHECK.due("no bits", x.layers(0, 0, 0, 2, -2), 0);
        CHECK.due("no bits, like", x.layers(0, 0, 0, 2, -1), 2 * (126 * 999 / 1000));
        CHECK.due("i -3", x.layers(0, 7, 0, 2, -3), -1);
    }

    private static void manyLayers() {
        LampHouse x = new LampHouse();
        Check.row(x, 900);
        Check.row(x, 999);
        x.light(0);
        x.light(1);
        x.eye(1, 1, -1);
        for (int i = 0; i < 6; i++) {
            x.thing(0, 0, 0);
        }
        Check.text(x, "like -sum;true 1;");
        x.force(1);
        CHECK.due("all five take most away", x.layers(0, 62, 1, 1, -2), 5);
        for (int i = 0; i < 5; i++) {
            CHECK.due("the " + i + "-th", x.layers(0, 62, 1, 1, i), i + 1);
        }
        CHECK.due("none behind them", x.layers(0, 62, 1, 1, 5), -1);
        // Four things of a row 0 take all away: fewest, and the least.
        Check.row(x, 0);
        x.thing(0, 2, 0);
        CHECK.due("one takes all", x.layers(0, 64 | 30, 1, 1, -2), 1);
        CHECK.due("which", x.layers(0, 64 | 30, 1, 1, 0), 6);
    }

    public static void main(String[] args) {
        mixed();
        mixedIsCut();
        trueOf();
        worst();
        layers();
        manyLayers();
        CHECK.end();
    }
}
