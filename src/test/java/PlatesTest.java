/** Promises 23 to 25: plates, what eyes read, charts. */
public final class PlatesTest {
    private static final Check CHECK = new Check("plates");

    /** Light c has colour c alone; an eye of rows that have a colour sees it. */
    private static LampHouse house() {
        LampHouse x = new LampHouse();
        for (int c = 0; c < 8; c++) {
            int[] row = new int[8];
            row[c] = 1;
            x.light(Check.row(x, row));
        }
        x.light(Check.row(x));
        return x;
    }

    private static int eyeOf(LampHouse x, int... colours) {
        int[] row = new int[8];
        for (int c : colours) {
            row[c] = 1;
        }
        int taker = Check.row(x, row);
        return x.eye(taker, taker, -1);
    }

    private static void plate() {
        LampHouse x = house();
        for (int i = 0; i < 10; i++) {
            CHECK.due("plate " + i, x.plate(i % 8, 8), i);
        }
        CHECK.due("count(8)", x.count(8), 10);
        eyeOf(x, 0, 3);
        CHECK.due("reads", x.reads(0), 1 | 8 | 256);
    }

    private static void reads() {
        LampHouse x = house();
        eyeOf(x, 0, 1);
        CHECK.due("reads without plates", x.reads(0), 0);
        x.plate(0, 1);
        x.plate(0, 2);
        x.plate(3, 3);
        x.plate(4, 5);
        x.plate(8, 1);
        CHECK.due("reads", x.reads(0), 2 | 16);
        // The second taker alone may tell.
        x.eye(6, 0, -1);
        CHECK.due("reads by the second taker", x.reads(1), 1 | 2);
        x.eye(6, 7, 5);
        CHECK.due("reads by the third taker", x.reads(2), 8);
    }

    private static void chart() {
        LampHouse x = house();
        CHECK.due("no eyes", x.chart(0), 0);
        for (int c = 0; c < 6; c++) {
            x.plate(c, 8);
        }
        eyeOf(x, 0, 1);
        eyeOf(x, 1, 2);
        eyeOf(x, 2, 3);
        eyeOf(x, 0, 1, 5);
        eyeOf(x, 0, 1);
        CHECK.due("one eye", x.chart(4), 0);
        CHECK.due("two eyes: the least plate", x.chart(3), 1);
        CHECK.due("two others", x.chart(6), 2);
        CHECK.due("two that one plate tells", x.chart(9), 32);
        // Reads 3, 6, 12: 0 and 1 tell all three apart, so do 0 and 2.
        CHECK.due("three eyes", x.chart(7), 3);
        CHECK.due("four eyes", x.chart(15), 1 | 2 | 32);
        CHECK.due("two that are alike", x.chart(17), -1);
        CHECK.due("two alike among others", x.chart(31), -1);
    }

    /** A set of fewer plates wins over a lesser number. */
    private static void fewest() {
        LampHouse x = house();
        x.plate(0, 8);
        x.plate(1, 8);
        x.plate(2, 8);
        x.plate(3, 8);
        // Eyes 0 and 1 by plates 0 and 3, 1 and 2 by 1 and 3, 0 and 2 by 0 and 1: two plates at least.
        eyeOf(x, 0, 3);
        eyeOf(x, 4);
        eyeOf(x, 1, 3);
        CHECK.due("the least of the fewest", x.chart(7), 3);
        eyeOf(x, 5);
        CHECK.due("two that read nothing", x.chart(10), -1);
        LampHouse y = house();
        y.plate(0, 8);
        y.plate(1, 8);
        y.plate(2, 8);
        y.plate(3, 8);
        eyeOf(y, 2, 3);
        eyeOf(y, 3);
        eyeOf(y, 2);
        eyeOf(y, 0, 1);
        CHECK.due("two plates of the upper ones", y.chart(15), 4 | 8);
        LampHouse z = house();
        for (int c = 0; c < 4; c++) {
            z.plate(c, 8);
        }
        // Plates 0, 1, 2 tell all apart as well, and are less as bits, but they are more.
        eyeOf(z, 0);
        eyeOf(z, 1, 2);
        eyeOf(z, 3);
        eyeOf(z, 2, 3);
        CHECK.due("fewer plates win over less bits", z.chart(15), 4 | 8);
    }

    private static void eightEyes() {
        LampHouse x = house();
        x.plate(0, 8);
        x.plate(1, 8);
        x.plate(2, 8);
        int[][] colours = {{7}, {0}, {1}, {0, 1}, {2}, {0, 2}, {1, 2}, {0, 1, 2}};
        for (int[] some : colours) {
            eyeOf(x, some);
        }
        CHECK.due("all eight", x.chart(255), 7);
        LampHouse y = house();
        y.plate(0, 8);
        y.plate(1, 8);
        y.plate(2, 8);
        for (int eye = 0; eye < 7; eye++) {
            eyeOf(y, colours[eye]);
        }
        eyeOf(y, colours[6]);
        CHECK.due("the last two are alike", y.chart(255), -1);
        CHECK.due("all but the last", y.chart(127), 7);
    }

    public static void main(String[] args) {
        plate();
        reads();
        chart();
        fewest();
        eightEyes();
        CHECK.end();
    }
}
