/** The edges of promises 1 to 4 and 34: a new object, pass, row, rowTold, count. */
public final class RowEdgesTest {
    private static final Edges E = new Edges("row edges");
    private static final long FIVE_DIGITS = 1000000000000L;

    /** "HOUR 0, no ROWS, no THINGS"; "SHEETS .. missing (as all are at first)". */
    private static void aNewObject() {
        E.house(Edges::none);
        for (int what = 0; what <= 10; what++) {
            int due = what == 5 ? 1 : 0;
            int asked = what;
            E.due("new: count(" + what + ")", x -> x.count(asked), due);
        }
        E.refused("new: rowTold", x -> x.rowTold(0, 0), -2);
        E.refused("new: thing", x -> x.thing(0, 0, 0), -2);
        E.refused("new: thingTold", x -> x.thingTold(0, 0), -2);
        E.refused("new: light", x -> x.light(0), -2);
        E.refused("new: shine", x -> x.shine(0, 0, 0), -2);
        E.refused("new: both", x -> x.both(0, 0), -2);
        E.refused("new: lightTold", x -> x.lightTold(0, 0), -2);
        E.refused("new: eye", x -> x.eye(0, 0, -1), -2);
        E.refused("new: seen", x -> x.seen(0, 0, 0), Edges.NO);
        E.refused("new: same", x -> x.same(0, 0, 0), -2);
        E.refused("new: twins", x -> x.twins(0, 0, -1), -2);
        E.due("new: text, of an empty tape", x -> x.text(), -100);
        E.due("new: force(0)", x -> x.force(0), 0);
        E.refused("new: force(1)", x -> x.force(1), -2);
        E.refused("new: like", x -> x.like(0, 0, 0), Edges.NO);
        E.refused("new: mixed", x -> x.mixed(0, 1, 0, 0), -2);
        E.refused("new: trueOf", x -> x.trueOf(0, 0, 0, 0), Edges.NO);
        E.refused("new: worst", x -> x.worst(0, 1, 0, 0), -2);
        E.refused("new: layers", x -> x.layers(0, 0, 0, 0, -2), -2);
    }

    private static void aNewObjectBehindLights() {
        E.house(Edges::none);
        E.refused("new: plate", x -> x.plate(0, 0), -2);
        E.refused("new: reads", x -> x.reads(0), -2);
        E.due("new: chart of no eyes", x -> x.chart(0), 0);
        E.refused("new: chart", x -> x.chart(1), -2);
        E.refused("new: age", x -> x.age(0, 0, 0), -2);
        E.refused("new: still", x -> x.still(0, 0), -2);
        E.refused("new: flicker", x -> x.flicker(0, 0), -2);
        E.refused("new: film", x -> x.film(0, 0, 1, 0), -2);
        E.refused("new: stripes", x -> x.stripes(0, 1, 0, 1), -2);
        E.refused("new: quietest", x -> x.quietest(1, 1, 0, 1), -2);
        E.refused("new: filter", x -> x.filter(0, 0), -2);
        E.due("new: all hidden rows fit", x -> x.hidden(0, 0), 65536);
        for (int sheet = 0; sheet < 4; sheet++) {
            int s = sheet;
            E.refused("new: cell of sheet " + sheet, x -> x.cell(s, 0, 0), -11);
            E.refused("new: copy of sheet " + sheet, x -> x.copy(s, 0, s, 0, 0), -11);
            E.refused("new: rowOf of sheet " + sheet, x -> x.rowOf(s, 0, 0), -11);
        }
        E.refused("new: taken", x -> x.taken(0, 0), -11);
    }

    private static void hours(LampHouse x, int till) {
        while (x.count(0) < till) {
            x.pass(Math.min(1000, till - x.count(0)));
        }
    }

    /** "n HOURS (1 .. 1000) go by: HOUR. BAD". */
    private static void hoursThatPass() {
        E.house(Edges::some);
        E.range("pass", 1, 1000, (x, n) -> x.pass(n), -2);
        E.refused("pass(-1)", x -> x.pass(-1), -2);
        E.due("pass(1)", x -> x.pass(1), 18);
        E.due("pass(2)", x -> x.pass(2), 19);
        E.due("pass(999)", x -> x.pass(999), 1016);
        E.due("pass(1000)", x -> x.pass(1000), 1017);
    }

    /** "HOUR is 0 at first, 9999 at most"; "FULL: above 9999". */
    private static void theLastHour() {
        E.house(x -> hours(x, 8999));
        E.due("8999 and 999", x -> x.pass(999), 9998);
        E.due("8999 and 1000", x -> x.pass(1000), 9999);
        E.refused("8999 and 1001: BAD ahead of FULL", x -> x.pass(1001), -2);
        E.house(x -> hours(x, 9000));
        E.due("9000 and 998", x -> x.pass(998), 9998);
        E.due("9000 and 999", x -> x.pass(999), 9999);
        E.refused("9000 and 1000", x -> x.pass(1000), -4);
        E.house(x -> hours(x, 9998));
        E.due("9998 and 1", x -> x.pass(1), 9999);
        E.refused("9998 and 2", x -> x.pass(2), -4);
        E.house(Edges::full);
        E.due("the last hour", x -> x.count(0), 9999);
        E.refused("9999 and 1", x -> x.pass(1), -4);
        E.refused("9999 and 1000", x -> x.pass(1000), -4);
        E.refused("9999 and 0: BAD ahead of FULL", x -> x.pass(0), -2);
        E.refused("9999 and 1001: BAD ahead of FULL", x -> x.pass(1001), -2);
        E.refused("9999 and the most: BAD ahead of FULL", x -> x.pass(Edges.MOST), -2);
        E.refused("9999 and the least: BAD ahead of FULL", x -> x.pass(Edges.LEAST), -2);
    }

    private static void told(long first, long second, int... due) {
        for (int c = 0; c < 8; c++) {
            int colour = c;
            E.due("row(" + first + ", " + second + "), colour " + c,
                x -> x.rowTold(x.row(first, second), colour), due[c]);
        }
    }

    /** "digits to the base 1000, COLOUR 0's the lowest, 4 in each of two numbers". */
    private static void digits() {
        E.house(Edges::some);
        told(0, 0, 0, 0, 0, 0, 0, 0, 0, 0);
        told(1, 0, 1, 0, 0, 0, 0, 0, 0, 0);
        told(0, 1, 0, 0, 0, 0, 1, 0, 0, 0);
        told(999, 999, 999, 0, 0, 0, 999, 0, 0, 0);
        told(1000, 1000, 0, 1, 0, 0, 0, 1, 0, 0);
        told(1001, 1001, 1, 1, 0, 0, 1, 1, 0, 0);
        told(999999, 1000000, 999, 999, 0, 0, 0, 0, 1, 0);
        told(1000001, 999999999, 1, 0, 1, 0, 999, 999, 999, 0);
        told(1000000000, 1000000001, 0, 0, 0, 1, 1, 0, 0, 1);
        told(FIVE_DIGITS - 2, FIVE_DIGITS - 1, 998, 999, 999, 999, 999, 999, 999, 999);
        told(FIVE_DIGITS - 1, FIVE_DIGITS - 2, 999, 999, 999, 999, 998, 999, 999, 999);
    }

    /** "BAD: one has more digits, is below 0". */
    private static void digitsThatAreBad() {
        for (long bad : new long[] {-1, -2, -FIVE_DIGITS, Long.MIN_VALUE, Integer.MIN_VALUE,
                FIVE_DIGITS, FIVE_DIGITS + 1, Long.MAX_VALUE, 1L << 40, 1L << 62}) {
            E.house(Edges::some);
            E.refused("row(" + bad + ", 0)", x -> x.row(bad, 0), -2);
            E.refused("row(0, " + bad + ")", x -> x.row(0, bad), -2);
            E.refused("row of " + bad + " twice", x -> x.row(bad, bad), -2);
            E.house(Edges::full);
            E.refused("row(" + bad + ", 0): BAD ahead of FULL", x -> x.row(bad, 0), -2);
            E.refused("row(0, " + bad + "): BAD ahead of FULL", x -> x.row(0, bad), -2);
        }
    }

    private static void rows(LampHouse x, int n) {
        for (int i = 0; i < n; i++) {
            x.row(i, 999 - i);
        }
    }

    /** "A ROW (30 at most, numbered from 0)"; "FULL". */
    private static void mostRows() {
        E.house(Edges::none);
        E.due("the first row", x -> x.row(0, 0), 0);
        E.house(x -> rows(x, 1));
        E.due("the second row", x -> x.row(0, 0), 1);
        E.house(x -> rows(x, 28));
        E.due("the 29th row", x -> x.row(5, 0), 28);
        E.house(x -> rows(x, 29));
        E.due("the 30th row", x -> x.row(5, 0), 29);
        E.due("the 30th row is told", x -> x.rowTold(x.row(5, 0), 0), 5);
        E.house(x -> rows(x, 30));
        E.refused("the 31st row", x -> x.row(5, 0), -4);
        E.then("the 30th row stays", x -> x.row(5, 0), x -> x.rowTold(29, 4), 970);
    }

    /** "The number of a ROW for a COLOUR. BAD." */
    private static void rowTold() {
        E.house(Edges::some);
        E.range("rowTold of a row", 0, 2, (x, n) -> x.rowTold(n, 7), -2);
        E.range("rowTold of a colour", 0, 7, (x, n) -> x.rowTold(0, n), -2);
        E.refused("neither row nor colour", x -> x.rowTold(3, 8), -2);
        E.due("the first row's first colour", x -> x.rowTold(0, 0), 100);
        E.due("the first row's last colour", x -> x.rowTold(0, 7), 800);
        E.due("the last row's first colour", x -> x.rowTold(2, 0), 1);
        E.due("the last row's last colour", x -> x.rowTold(2, 7), 0);
        E.house(Edges::full);
        E.range("rowTold of 30 rows", 0, 29, (x, n) -> x.rowTold(n, 0), -2);
        E.due("row 29", x -> x.rowTold(29, 0), 29);
    }

    /** "How many: 0 HOUR, .. 10 FILTERS. BAD." */
    private static void count() {
        E.house(Edges::full);
        E.range("count", 0, 10, (x, n) -> x.count(n), -2);
        int[] due = {9999, 30, 20, 20, 8, 6, 160, 0, 10, 40, 4};
        for (int what = 0; what < due.length; what++) {
            int asked = what;
            E.due("a full house: count(" + what + ")", x -> x.count(asked), due[what]);
        }
        E.then("the last text is the rule", x -> x.force(5), x -> x.count(7), 5);
    }

    public static void main(String[] args) {
        aNewObject();
        aNewObjectBehindLights();
        hoursThatPass();
        theLastHour();
        digits();
        digitsThatAreBad();
        mostRows();
        rowTold();
        count();
        E.end();
    }
}
