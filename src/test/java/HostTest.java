/** Promises 35 to 38: sheets; things taken for a kind are in HostEdgesTest. */
public final class HostTest {
    private static final Check CHECK = new Check("host");

    private static void sheet() {
        LampHouse x = new LampHouse();
        CHECK.due("n 0", x.sheet(0, 0, 0), 1);
        CHECK.due("n 40", x.sheet(0, 2, 40), 1);
        CHECK.due("item 39", x.cell(0, 39, 7), 1);
        CHECK.due("the last 8", x.rowOf(0, 2, 32), 0);
        CHECK.due("item 39 is told", x.rowTold(0, 7), 7);
        CHECK.due("once more", x.sheet(0, 2, 40), 1);
        CHECK.due("all 0 then", x.rowOf(0, 2, 32), 1);
        CHECK.due("all 0 then", x.rowTold(1, 7), 0);
        CHECK.due("missing", x.sheet(0, -1, -5), 1);
        CHECK.due("missing again", x.sheet(0, -1, 500), 1);
    }

    private static void cell() {
        LampHouse x = new LampHouse();
        for (int sort = 0; sort < 3; sort++) {
            x.sheet(sort, sort, 8);
        }
        for (int sort = 0; sort < 3; sort++) {
            CHECK.due("cell", x.cell(sort, 3, 0x10000 + 0x100 + 7), 1);
        }
        x.rowOf(0, 0, 0);
        CHECK.due("the lowest 8 bits", x.rowTold(0, 3), 7);
        x.rowOf(1, 1, 0);
        CHECK.due("the lowest 16 bits", x.rowTold(1, 3), 0x107);
        CHECK.due("all bits", x.rowOf(2, 2, 0), -3);
        x.cell(0, 3, 128);
        CHECK.due("a byte of 128 is below 0", x.rowOf(0, 0, 0), -3);
        x.cell(0, 3, 127);
        CHECK.due("a byte of 127", x.rowOf(0, 0, 0), 2);
        x.cell(1, 3, 1000);
        CHECK.due("a short of 1000", x.rowOf(1, 1, 0), -3);
        x.cell(2, 3, 999);
        CHECK.due("an int of 999", x.rowOf(2, 2, 0), 3);
        x.cell(2, 3, -1);
        CHECK.due("an int of -1", x.rowOf(2, 2, 0), -3);
    }

    private static void told(LampHouse x, int sheet, int... due) {
        int row = x.rowOf(sheet, 2, 0);
        for (int c = 0; c < 8; c++) {
            CHECK.due("item " + c, x.rowTold(row, c), due[c]);
        }
    }

    private static void copy() {
        LampHouse x = new LampHouse();
        x.sheet(0, 2, 8);
        x.sheet(1, 2, 8);
        for (int i = 0; i < 8; i++) {
            x.cell(0, i, i + 1);
        }
        CHECK.due("copy", x.copy(0, 2, 1, 4, 3), 3);
        told(x, 1, 0, 0, 0, 0, 3, 4, 5, 0);
        told(x, 0, 1, 2, 3, 4, 5, 6, 7, 8);
        CHECK.due("up within one", x.copy(0, 0, 0, 1, 7), 7);
        told(x, 0, 1, 1, 2, 3, 4, 5, 6, 7);
        CHECK.due("down within one", x.copy(0, 1, 0, 0, 7), 7);
        told(x, 0, 1, 2, 3, 4, 5, 6, 7, 7);
        CHECK.due("none", x.copy(0, 8, 1, 8, 0), 0);
        told(x, 0, 1, 2, 3, 4, 5, 6, 7, 7);
        told(x, 1, 0, 0, 0, 0, 3, 4, 5, 0);
    }

    private static void rowOf() {
        LampHouse x = new LampHouse();
        x.sheet(0, 2, 10);
        x.cell(0, 5, 999);
        x.cell(0, 1, 5000);
        CHECK.due("from 2", x.rowOf(0, 2, 2), 0);
        CHECK.due("from 2, colour 3", x.rowTold(0, 3), 999);
        x.cell(0, 5, 1);
        CHECK.due("the row stays", x.rowTold(0, 3), 999);
    }

    public static void main(String[] args) {
        sheet();
        cell();
        copy();
        rowOf();
        CHECK.end();
    }
}
