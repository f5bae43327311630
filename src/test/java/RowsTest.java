/** Promises 1 to 4, and 34: a new object, pass, row, rowTold, count. */
public final class RowsTest {
    private static final Check CHECK = new Check("rows");

    private static void aNewObject() {
        LampHouse x = new LampHouse();
        int[] due = {0, 0, 0, 0, 0, 1, 0, 0, 0, 0, 0};
        for (int what = 0; what < due.length; what++) {
            CHECK.due("new count(" + what + ")", x.count(what), due[what]);
        }
        CHECK.due("rowTold of none", x.rowTold(0, 0), -2);
        CHECK.due("thingTold of none", x.thingTold(0, 0), -2);
        CHECK.due("lightTold of none", x.lightTold(0, 0), -2);
        CHECK.due("reads of none", x.reads(0), -2);
        CHECK.due("chart of none", x.chart(0), 0);
        CHECK.due("cell of a missing sheet", x.cell(3, 0, 0), -11);
    }

    private static void pass() {
        LampHouse x = new LampHouse();
        CHECK.due("pass(1)", x.pass(1), 1);
        for (int i = 1; i <= 9; i++) {
            CHECK.due("pass(1000)", x.pass(1000), 1000 * i + 1);
        }
        CHECK.refused(x, "pass(999) to 10000", () -> x.pass(999), -4);
        CHECK.refused(x, "pass(0)", () -> x.pass(0), -2);
        CHECK.refused(x, "pass(-1)", () -> x.pass(-1), -2);
        CHECK.refused(x, "pass(1001)", () -> x.pass(1001), -2);
        CHECK.refused(x, "pass of much", () -> x.pass(Integer.MAX_VALUE), -2);
        CHECK.due("pass(998) to 9999", x.pass(998), 9999);
        CHECK.refused(x, "pass(1) behind 9999", () -> x.pass(1), -4);
        CHECK.due("count(0)", x.count(0), 9999);
    }

    private static void row() {
        LampHouse x = new LampHouse();
        CHECK.due("row", x.row(4003002001L, 8007006005L), 0);
        for (int c = 0; c < 8; c++) {
            CHECK.due("rowTold " + c, x.rowTold(0, c), c + 1);
        }
        CHECK.refused(x, "row with 5 digits", () -> x.row(1000000000000L, 0), -2);
        CHECK.refused(x, "row with 5 digits behind", () -> x.row(0, 1000000000000L), -2);
        CHECK.refused(x, "row below 0", () -> x.row(-1, 0), -2);
        CHECK.refused(x, "row below 0 behind", () -> x.row(0, -1), -2);
        CHECK.refused(x, "row of the least", () -> x.row(Long.MIN_VALUE, 0), -2);
        CHECK.due("row of the most", x.row(999999999999L, 999999999999L), 1);
        for (int c = 0; c < 8; c++) {
            CHECK.due("rowTold of the most", x.rowTold(1, c), 999);
        }
        for (int i = 2; i < 30; i++) {
            CHECK.due("row " + i, x.row(i, 0), i);
        }
        CHECK.refused(x, "row 30", () -> x.row(0, 0), -4);
        CHECK.refused(x, "a bad row where none has room", () -> x.row(-1, 0), -2);
        CHECK.due("rowTold(29, 0)", x.rowTold(29, 0), 29);
        CHECK.due("rowTold(30, 0)", x.rowTold(30, 0), -2);
        CHECK.due("rowTold(-1, 0)", x.rowTold(-1, 0), -2);
        CHECK.due("rowTold(0, 8)", x.rowTold(0, 8), -2);
        CHECK.due("rowTold(0, -1)", x.rowTold(0, -1), -2);
        CHECK.due("count(1)", x.count(1), 30);
    }

    private static void count() {
        LampHouse x = new LampHouse();
        Check.row(x, 1);
        Check.row(x, 2);
        x.pass(17);
        for (int i = 0; i < 3; i++) {
            x.thing(0, 0, 0);
        }
        for (int i = 0; i < 4; i++) {
            x.light(0);
        }
        for (int i = 0; i < 5; i++) {
            x.eye(0, 1, -1);
        }
        Check.text(x, "like 1;true 1;");
        Check.text(x, "like 2;true 2;");
        x.force(1);
        x.feed(6, 0);
        for (int i = 0; i < 8; i++) {
            x.plate(0, 1);
        }
        for (int i = 0; i < 9; i++) {
            x.age(0, 0, 0);
        }
        x.filter(0, 0);
        int[] due = {17, 2, 3, 4, 5, 3, 6, 1, 8, 9, 1};
        for (int what = 0; what < due.length; what++) {
            CHECK.due("count(" + what + ")", x.count(what), due[what]);
        }
        CHECK.due("count(-1)", x.count(-1), -2);
        CHECK.due("count(11)", x.count(11), -2);
    }

    public static void main(String[] args) {
        aNewObject();
        pass();
        row();
        count();
        CHECK.end();
    }
}
