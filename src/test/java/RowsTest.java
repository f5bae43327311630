/** Promises 2 to 4, and 34: pass, row, rowTold, count. */
public final class RowsTest {
    private static final Check CHECK = new Check("rows");

    private static void pass() {
        LampHouse x = new LampHouse();
        CHECK.due("pass(1)", x.pass(1), 1);
        for (int i = 1; i <= 9; i++) {
            CHECK.due("pass(1000)", x.pass(1000), 1000 * i + 1);
        }
        CHECK.due("pass(998) to 9999", x.pass(998), 9999);
        CHECK.due("count(0)", x.count(0), 9999);
    }

    private static void row() {
        LampHouse x = new LampHouse();
        CHECK.due("row", x.row(4003002001L, 8007006005L), 0);
        for (int c = 0; c < 8; c++) {
            CHECK.due("rowTold " + c, x.rowTold(0, c), c + 1);
        }
        CHECK.due("row of the most", x.row(999999999999L, 999999999999L), 1);
        for (int c = 0; c < 8; c++) {
            CHECK.due("rowTold of the most", x.rowTold(1, c), 999);
        }
        for (int i = 2; i < 30; i++) {
            CHECK.due("row " + i, x.row(i, 0), i);
        }
        CHECK.due("rowTold(29, 0)", x.rowTold(29, 0), 29);
        CHECK.due("count(1)", x.count(1), 30);
    }

    private static void count() {
        LampHouse x = new LampHouse();
        Check.row(x, 1);
        Check.row(x, 2);
        x.pass(17);
        for (int i = 0; i < 3; i++) {
            x.thing(0, 0, 0);
        }
        for (int i = 0; i < 4; i++) {
            x.light(0);
        }
        for (int i = 0; i < 5; i++) {
            x.eye(0, 1, -1);
        }
        Check.text(x, "like 1;true 1;");
        Check.text(x, "like 2;true 2;");
        x.force(1);
        x.feed(6, 0);
        for (int i = 0; i < 8; i++) {
            x.plate(0, 1);
        }
        for (int i = 0; i < 9; i++) {
            x.age(0, 0, 0);
        }
        x.filter(0, 0);
        int[] due = {17, 2, 3, 4, 5, 3, 6, 1, 8, 9, 1};
        for (int what = 0; what < due.length; what++) {
            CHECK.due("count(" + what + ")", x.count(what), due[what]);
        }
    }

    public static void main(String[] args) {
        pass();
        row();
        count();
        CHECK.end();
    }
}
