/** Promises 35 to 39: sheets, and things taken for a kind. */
public final class HostTest {
    private static final Check CHECK = new Check("host");

    private static void sheet() {
        LampHouse x = new LampHouse();
        CHECK.due("sheet -1", x.sheet(-1, 0, 8), -2);
        CHECK.due("sheet 4", x.sheet(4, 0, 8), -2);
        CHECK.due("sheet 4, missing", x.sheet(4, -1, 8), -2);
        CHECK.due("sort -2", x.sheet(0, -2, 8), -2);
        CHECK.due("sort 3", x.sheet(0, 3, 8), -2);
        CHECK.due("sort 3, n -1", x.sheet(0, 3, -1), -2);
        CHECK.due("n 41", x.sheet(0, 0, 41), -2);
        CHECK.due("n -1", x.sheet(0, 0, -1), -14);
        CHECK.due("still missing", x.cell(0, 0, 0), -11);
        CHECK.due("n 0", x.sheet(0, 0, 0), 1);
        CHECK.due("no item", x.cell(0, 0, 0), -12);
        CHECK.due("n 40", x.sheet(0, 2, 40), 1);
        CHECK.due("item 39", x.cell(0, 39, 7), 1);
        CHECK.due("item 40", x.cell(0, 40, 7), -12);
        CHECK.due("a refusal", x.sheet(0, 1, 41), -2);
        CHECK.due("a refusal", x.sheet(0, 1, -1), -14);
        CHECK.due("it is there yet", x.rowOf(0, 2, 32), 0);
        CHECK.due("as it was", x.rowTold(0, 7), 7);
        CHECK.due("once more", x.sheet(0, 2, 40), 1);
        CHECK.due("all 0 then", x.rowOf(0, 2, 32), 1);
        CHECK.due("all 0 then", x.rowTold(1, 7), 0);
        CHECK.due("missing", x.sheet(0, -1, -5), 1);
        CHECK.due("missing again", x.sheet(0, -1, 500), 1);
        CHECK.due("cell of it", x.cell(0, 0, 0), -11);
    }

    private static void cell() {
        LampHouse x = new LampHouse();
        for (int sort = 0; sort < 3; sort++) {
            x.sheet(sort, sort, 8);
        }
        CHECK.due("sheet -1", x.cell(-1, 0, 0), -2);
        CHECK.due("sheet 4", x.cell(4, 99, 0), -2);
        CHECK.due("missing", x.cell(3, 99, 0), -11);
        CHECK.due("item -1", x.cell(0, -1, 0), -12);
        CHECK.due("item 8", x.cell(0, 8, 0), -12);
        for (int sort = 0; sort < 3; sort++) {
            CHECK.due("cell", x.cell(sort, 3, 0x10000 + 0x100 + 7), 1);
        }
        x.rowOf(0, 0, 0);
        CHECK.due("the lowest 8 bits", x.rowTold(0, 3), 7);
        x.rowOf(1, 1, 0);
        CHECK.due("the lowest 16 bits", x.rowTold(1, 3), 0x107);
        CHECK.due("all bits", x.rowOf(2, 2, 0), -3);
        x.cell(0, 3, 128);
        CHECK.due("a byte of 128 is below 0", x.rowOf(0, 0, 0), -3);
        x.cell(0, 3, 127);
        CHECK.due("a byte of 127", x.rowOf(0, 0, 0), 2);
        x.cell(1, 3, 1000);
        CHECK.due("a short of 1000", x.rowOf(1, 1, 0), -3);
        x.cell(2, 3, 999);
        CHECK.due("an int of 999", x.rowOf(2, 2, 0), 3);
        x.cell(2, 3, -1);
        CHECK.due("an int of -1", x.rowOf(2, 2, 0), -3);
    }

    private static void told(LampHouse x, int sheet, int... due) {
        int row = x.rowOf(sheet, 2, 0);
        for (int c = 0; c < 8; c++) {
            CHECK.due("item " + c, x.rowTold(row, c), due[c]);
        }
    }

    private static void copy() {
        LampHouse x = new LampHouse();
        x.sheet(0, 2, 8);
        x.sheet(1, 2, 8);
        x.sheet(2, 1, 8);
        for (int i = 0; i < 8; i++) {
            x.cell(0, i, i + 1);
        }
        CHECK.due("copy", x.copy(0, 2, 1, 4, 3), 3);
        told(x, 1, 0, 0, 0, 0, 3, 4, 5, 0);
        told(x, 0, 1, 2, 3, 4, 5, 6, 7, 8);
        CHECK.due("up within one", x.copy(0, 0, 0, 1, 7), 7);
        told(x, 0, 1, 1, 2, 3, 4, 5, 6, 7);
        CHECK.due("down within one", x.copy(0, 1, 0, 0, 7), 7);
        told(x, 0, 1, 2, 3, 4, 5, 6, 7, 7);
        CHECK.due("none", x.copy(0, 8, 1, 8, 0), 0);
        CHECK.due("none from outside", x.copy(0, 9, 1, 0, 0), -12);
        CHECK.due("none to outside", x.copy(0, 0, 1, 9, 0), -12);
        CHECK.due("from -1", x.copy(0, -1, 1, 0, 1), -12);
        CHECK.due("to -1", x.copy(0, 0, 1, -1, 1), -12);
        CHECK.due("n -1", x.copy(0, 0, 1, 0, -1), -12);
        CHECK.due("too many", x.copy(0, 1, 1, 0, 8), -12);
        CHECK.due("too many there", x.copy(0, 0, 1, 1, 8), -12);
        CHECK.due("sums that wrap", x.copy(0, Integer.MAX_VALUE, 1, 0, Integer.MAX_VALUE), -12);
        CHECK.due("sums that wrap", x.copy(0, 1, 1, 0, Integer.MAX_VALUE), -12);
        CHECK.due("unlike sorts", x.copy(0, 0, 2, 0, -1), -13);
        CHECK.due("missing", x.copy(3, 0, 2, 0, -1), -11);
        CHECK.due("the other missing", x.copy(2, 0, 3, 0, -1), -11);
        CHECK.due("both missing", x.copy(3, 0, 3, 0, 1), -11);
        CHECK.due("sheet 4", x.copy(4, 0, 3, 0, 0), -2);
        CHECK.due("the other sheet 4", x.copy(3, 0, 4, 0, 0), -2);
        CHECK.due("sheet -1", x.copy(-1, 0, 0, 0, 0), -2);
        CHECK.due("the other sheet -1", x.copy(0, 0, -1, 0, 0), -2);
        told(x, 0, 1, 2, 3, 4, 5, 6, 7, 7);
        told(x, 1, 0, 0, 0, 0, 3, 4, 5, 0);
    }

    private static void rowOf() {
        LampHouse x = new LampHouse();
        x.sheet(0, 2, 10);
        CHECK.refused(x, "sheet -1", () -> x.rowOf(-1, 0, 0), -2);
        CHECK.refused(x, "sheet 4", () -> x.rowOf(4, 0, 0), -2);
        CHECK.refused(x, "sort -1", () -> x.rowOf(0, -1, 0), -2);
        CHECK.refused(x, "sort 3", () -> x.rowOf(0, 3, 0), -2);
        CHECK.refused(x, "sort -1 of a missing one", () -> x.rowOf(1, -1, 0), -2);
        CHECK.refused(x, "another sort", () -> x.rowOf(0, 1, 99), -13);
        CHECK.refused(x, "missing", () -> x.rowOf(1, 1, 99), -11);
        CHECK.refused(x, "from -1", () -> x.rowOf(0, 2, -1), -12);
        CHECK.refused(x, "from 3", () -> x.rowOf(0, 2, 3), -12);
        CHECK.refused(x, "from the most", () -> x.rowOf(0, 2, Integer.MAX_VALUE), -12);
        x.cell(0, 5, 1000);
        CHECK.refused(x, "outside ahead of STATE", () -> x.rowOf(0, 2, 3), -12);
        CHECK.refused(x, "1000", () -> x.rowOf(0, 2, 2), -3);
        x.cell(0, 5, -1);
        CHECK.refused(x, "-1", () -> x.rowOf(0, 2, 2), -3);
        x.cell(0, 5, 999);
        x.cell(0, 1, 5000);
        CHECK.due("from 2", x.rowOf(0, 2, 2), 0);
        CHECK.due("from 2, colour 3", x.rowTold(0, 3), 999);
        for (int i = 1; i < 30; i++) {
            Check.row(x, i);
        }
        CHECK.refused(x, "row 30", () -> x.rowOf(0, 2, 2), -4);
        CHECK.refused(x, "STATE ahead of FULL", () -> x.rowOf(0, 2, 1), -3);
        x.cell(0, 5, 1);
        CHECK.due("the row stays", x.rowTold(0, 3), 999);
    }

    private static void taken() {
        LampHouse x = new LampHouse();
        Check.row(x, 1);
        for (int kind = 0; kind < 6; kind++) {
            x.thing(kind, 0, 10 + kind);
        }
        String[] under = {"0", "01", "02", "013", "024", "025"};
        for (int kind = 0; kind < 6; kind++) {
            for (int k = 0; k < 6; k++) {
                boolean is = under[kind].indexOf('0' + k) >= 0;
                CHECK.due("taken(" + kind + ", " + k + ")", x.taken(kind, k), is ? 10 + kind : -13);
            }
        }
        CHECK.due("k -1", x.taken(0, -1), -2);
        CHECK.due("k 6", x.taken(0, 6), -2);
        CHECK.due("k 6 of no thing", x.taken(6, 6), -2);
        CHECK.due("no thing", x.taken(6, 0), -11);
        CHECK.due("thing -1", x.taken(-1, 0), -11);
    }

    public static void main(String[] args) {
        sheet();
        cell();
        copy();
        rowOf();
        taken();
        CHECK.end();
    }
}
