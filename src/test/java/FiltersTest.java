/** Promises 32 and 33: filters and hidden rows. */
public final class FiltersTest {
    private static final Check CHECK = new Check("filters");

    private static void filter() {
        LampHouse x = new LampHouse();
        Check.row(x);
        for (int i = 0; i < 4; i++) {
            CHECK.due("filter " + i, x.filter(0, 0), i);
        }
        CHECK.due("count(10)", x.count(10), 4);
        CHECK.due("all fit still", x.hidden(0, 0), 65536);
    }

    private static void hidden() {
        LampHouse x = new LampHouse();
        CHECK.due("all fit", x.hidden(0, 99), 65536);
        for (int c = 0; c < 8; c++) {
            CHECK.due("the least", x.hidden(1, c), 0);
            CHECK.due("the most", x.hidden(2, c), 3);
        }
        // 101 and 10 count as 1 and 0.
        Check.row(x, 101, 0, 0, 0, 0, 0, 0, 992);
        Check.row(x, 10, 10, 3);
        Check.row(x, 0, 0, 0, 5, 0, 1);
        Check.row(x, 9, 9, 9, 9, 9, 9, 9, 9);
        x.filter(0, 7);
        CHECK.due("1 and 3, 3 and 2", x.hidden(0, -5), 2 * 4096);
        CHECK.due("least of 0", x.hidden(1, 0), 1);
        CHECK.due("most of 0", x.hidden(2, 0), 3);
        CHECK.due("least of 7", x.hidden(1, 7), 2);
        CHECK.due("most of 7", x.hidden(2, 7), 3);
        CHECK.due("least of 3", x.hidden(1, 3), 0);
        x.filter(1, 6);
        CHECK.due("2 in colour 2", x.hidden(0, 0), 2 * 1024);
        CHECK.due("least of 2", x.hidden(1, 2), 2);
        CHECK.due("most of 2", x.hidden(2, 2), 2);
        x.filter(2, 12);
        CHECK.due("2 in colours 3 and 5", x.hidden(0, 0), 2 * 64);
        CHECK.due("least of 5", x.hidden(1, 5), 2);
        CHECK.due("most of 3", x.hidden(2, 3), 2);
        CHECK.due("most of 6", x.hidden(2, 6), 3);
        x.filter(3, 9 * 10);
        // All together are 10 then: 6 in colours 2, 3, 5, and 4 by (1, 3) or 5 by (3, 2) in 0 and 7.
        CHECK.due("nothing is left for 1, 4, 6", x.hidden(0, 0), 1);
        int[] due = {1, 0, 2, 2, 0, 2, 0, 3};
        for (int c = 0; c < 8; c++) {
            CHECK.due("the one row, least " + c, x.hidden(1, c), due[c]);
            CHECK.due("the one row, most " + c, x.hidden(2, c), due[c]);
        }
    }

    private static void halves() {
        LampHouse x = new LampHouse();
        CHECK.due("all", x.hidden(0, 0), 65536);
        Check.row(x, 0, 0, 0, 0, 1, 1, 1, 1);
        Check.row(x, 1, 1, 1, 1);
        x.filter(0, 0);
        CHECK.due("nothing in the upper colours", x.hidden(0, 0), 256);
        CHECK.due("their least", x.hidden(1, 6), 0);
        CHECK.due("their most", x.hidden(2, 6), 0);
        CHECK.due("the lower ones' most", x.hidden(2, 1), 3);
        x.filter(1, 12);
        CHECK.due("all in the lower colours", x.hidden(0, 0), 1);
        CHECK.due("their least", x.hidden(1, 2), 3);
        LampHouse y = new LampHouse();
        CHECK.due("all", y.hidden(0, 0), 65536);
        Check.row(y, 0, 0, 0, 0, 1, 1, 1, 1);
        y.filter(0, 12);
        CHECK.due("all in the upper colours", y.hidden(0, 0), 256);
        CHECK.due("their least", y.hidden(1, 4), 3);
    }

    private static void noneFits() {
        LampHouse x = new LampHouse();
        Check.row(x, 2, 2, 2, 2, 2, 2, 2, 2);
        x.filter(0, 1);
        CHECK.due("none", x.hidden(0, 0), 0);
        CHECK.due("no least", x.hidden(1, 0), -1);
        CHECK.due("no most", x.hidden(2, 7), -1);
        LampHouse y = new LampHouse();
        Check.row(y, 9, 9, 9, 9, 9, 9, 9, 9);
        y.filter(0, 216);
        CHECK.due("the one at its most", y.hidden(0, 0), 1);
        CHECK.due("its least", y.hidden(1, 4), 3);
        LampHouse z = new LampHouse();
        Check.row(z, 9, 9, 9, 9, 9, 9, 9, 9);
        z.filter(0, 999);
        CHECK.due("too much", z.hidden(0, 0), 0);
        LampHouse w = new LampHouse();
        Check.row(w, 1);
        for (int i = 0; i < 4; i++) {
            w.filter(0, 3);
        }
        CHECK.due("one filter four times", w.hidden(0, 0), 16384);
    }

    public static void main(String[] args) {
        filter();
        hidden();
        halves();
        noneFits();
        CHECK.end();
    }
}
