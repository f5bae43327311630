/** Promises 5 to 10: things and lights. */
public final class ThingsTest {
    private static final Check CHECK = new Check("things");

    private static void thing() {
        LampHouse x = new LampHouse();
        Check.row(x, 1);
        x.pass(7);
        CHECK.due("thing", x.thing(3, 0, 99), 0);
        int[] due = {3, 0, 99, 7, 65535, 100};
        for (int what = 0; what < due.length; what++) {
            CHECK.due("thingTold " + what, x.thingTold(0, what), due[what]);
        }
        Check.row(x, 2);
        for (int i = 1; i < 20; i++) {
            CHECK.due("thing " + i, x.thing(i % 6, i % 2, i), i);
        }
        CHECK.due("kind of 17", x.thingTold(17, 0), 5);
        CHECK.due("row of 17", x.thingTold(17, 1), 1);
        CHECK.due("number of 17", x.thingTold(17, 2), 17);
    }

    private static void stillNow() {
        LampHouse x = new LampHouse();
        Check.row(x, 1);
        x.pass(100);
        x.thing(0, 0, 0);
        x.age(0, 0, 100);
        x.age(0, 50, 0);
        CHECK.due("still at its birth", x.thingTold(0, 5), 100);
        x.pass(25);
        CHECK.due("still half way", x.thingTold(0, 5), 50);
        x.pass(26);
        CHECK.due("still behind the last", x.thingTold(0, 5), 0);
        x.flicker(0, 5);
        CHECK.due("steps", x.thingTold(0, 4), 5);
    }

    /** Numbers where each cut of a quotient shows. */
    private static void turned() {
        LampHouse x = new LampHouse();
        Check.row(x, 777, 5, 999, 0, 333, 1, 500, 123);
        Check.row(x, 333, 999, 1, 500, 7, 999, 501, 0);
        x.light(0);
        for (int kind = 0; kind <= 5; kind++) {
            x.thing(kind, 1, 37);
        }
        for (int kind = 0; kind <= 5; kind++) {
            CHECK.due("shine", x.shine(0, kind, 0), kind + 1);
        }
        int[][] due = {
            {258, 4, 0, 0, 2, 0, 250, 0},
            {591, 1003, 1, 500, 9, 999, 751, 0},
            {517, 4, 499, 0, 167, 0, 375, 61},
            {372, 631, 0, 315, 5, 629, 473, 0},
            {517, 4, 499, 0, 167, 388, 375, 61},
            {344, 3, 249, 0, 84, 0, 281, 30},
        };
        for (int kind = 0; kind <= 5; kind++) {
            for (int c = 0; c < 8; c++) {
                CHECK.due("kind " + kind + " colour " + c, x.lightTold(kind + 1, c), due[kind][c]);
            }
        }
        x.thing(4, 1, 8);
        x.shine(0, 6, 0);
        CHECK.due("glowing to colour 0", x.lightTold(7, 0), 517 + 388);
        x.thing(3, 1, 0);
        x.shine(0, 7, 0);
        CHECK.due("worn by nothing", x.lightTold(8, 1), 1003);
    }

    private static void aged() {
        LampHouse x = new LampHouse();
        Check.row(x, 999, 333);
        x.light(0);
        x.pass(10);
        x.thing(4, 0, 1);
        x.age(0, 0, 33);
        x.age(0, 20, 71);
        x.pass(10);
        // 998 and 332 through the glass, 499 more glow, then 52 of 100.
        CHECK.due("shine not aged", x.shine(0, 0, 0), 1);
        CHECK.due("shine aged", x.shine(0, 0, 1), 2);
        CHECK.due("not aged, 0", x.lightTold(1, 0), 998);
        CHECK.due("not aged, 1", x.lightTold(1, 1), 333 * 666 / 1000 + 499);
        CHECK.due("aged, 0", x.lightTold(2, 0), 998 * 52 / 100);
        CHECK.due("aged, 1", x.lightTold(2, 1), (333 * 666 / 1000 + 499) * 52 / 100);
    }

    private static void lights() {
        LampHouse x = new LampHouse();
        Check.row(x, 1, 2, 3, 4, 5, 6, 7, 8);
        Check.row(x, 999, 0, 0, 0, 0, 0, 0, 10);
        x.thing(0, 0, 0);
        CHECK.due("light", x.light(0), 0);
        CHECK.due("light", x.light(1), 1);
        CHECK.due("both", x.both(0, 1), 2);
        for (int c = 0; c < 8; c++) {
            CHECK.due("both " + c, x.lightTold(2, c), c + 1 + (c == 0 ? 999 : c == 7 ? 10 : 0));
        }
        for (int i = 3; i < 20; i++) {
            CHECK.due("both of one", x.both(i - 1, i - 1), i);
        }
        CHECK.due("doubled", x.lightTold(19, 0), 1000 << 17);
    }

    public static void main(String[] args) {
        thing();
        stillNow();
        turned();
        aged();
        lights();
        CHECK.end();
    }
}
