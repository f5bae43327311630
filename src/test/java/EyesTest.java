/** Promises 11 to 14: eyes, what they see, and twins. */
public final class EyesTest {
    private static final Check CHECK = new Check("eyes");

    private static void eye() {
        LampHouse x = new LampHouse();
        Check.row(x, 1, 2, 3, 4, 5, 6, 7, 8);
        Check.row(x, 999, 999, 999, 999, 999, 999, 999, 999);
        x.light(0);
        x.light(1);
        CHECK.due("eye of two", x.eye(0, 1, -1), 0);
        CHECK.due("eye of three", x.eye(1, 0, 0), 1);
        CHECK.due("seen", x.seen(0, 0, 0), 204);
        CHECK.due("seen", x.seen(0, 1, 0), 36 * 999);
        CHECK.due("seen", x.seen(1, 0, 1), 8 * 999 * 999);
        CHECK.due("seen", x.seen(1, 2, 1), 36 * 999);
        for (int i = 2; i < 8; i++) {
            CHECK.due("eye " + i, x.eye(0, 1, -1), i);
        }
    }

    private static void muchIsSeen() {
        LampHouse x = new LampHouse();
        Check.row(x, 999, 999, 999, 999, 999, 999, 999, 999);
        x.eye(0, 0, -1);
        x.light(0);
        for (int i = 1; i < 20; i++) {
            x.both(i - 1, i - 1);
        }
        CHECK.due("seen of much", x.seen(0, 1, 19), 8L * 999 * (999L << 19));
        CHECK.due("like of much", x.like(0, 0, 19), 2000000);
    }

    private static void same() {
        LampHouse x = new LampHouse();
        Check.row(x, 1, 1);
        Check.row(x, 1);
        Check.row(x, 0, 1);
        Check.row(x, 0, 0, 1);
        x.eye(0, 0, -1);
        x.eye(0, 3, 1);
        x.eye(0, 1, -1);
        for (int row = 0; row < 4; row++) {
            x.light(row);
        }
        CHECK.due("same by the sum", x.same(0, 1, 2), 1);
        CHECK.due("the third taker tells", x.same(1, 1, 2), 0);
        CHECK.due("the second taker tells", x.same(2, 1, 2), 0);
        CHECK.due("the first taker tells", x.same(0, 0, 1), 0);
        CHECK.due("same as itself", x.same(1, 2, 2), 1);
    }

    private static void twins() {
        LampHouse x = new LampHouse();
        Check.row(x, 1, 1, 1);
        Check.row(x, 1);
        Check.row(x, 0, 1);
        Check.row(x, 0, 0, 1);
        x.eye(0, 0, -1);
        x.eye(1, 2, -1);
        x.light(1);
        CHECK.due("no pair of one light", x.twins(0, 1, -1), 0);
        x.light(2);
        x.light(0);
        x.light(3);
        x.light(1);
        // Lights 0, 1, 3, 4 are one to eye 0; to eye 1 0 and 4 are one, too.
        CHECK.due("how many", x.twins(0, 1, -1), 5);
        int[] due = {1, 3, 103, 104, 304};
        for (int i = 0; i < due.length; i++) {
            CHECK.due("pair " + i, x.twins(0, 1, i), due[i]);
        }
        CHECK.due("pair 5", x.twins(0, 1, 5), -1);
        CHECK.due("pair -2", x.twins(0, 1, -2), -1);
        CHECK.due("pair of the least", x.twins(0, 1, Integer.MIN_VALUE), -1);
        CHECK.due("the other way", x.twins(1, 0, -1), 0);
        CHECK.due("one eye with itself", x.twins(0, 0, -1), 0);
    }

    public static void main(String[] args) {
        eye();
        muchIsSeen();
        same();
        twins();
        CHECK.end();
    }
}
