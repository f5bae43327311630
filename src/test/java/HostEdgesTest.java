/** The edges of promises 35 to 39: sheet, cell, copy, rowOf, taken. */
public final class HostEdgesTest {
    private static final Edges E = new Edges("host edges");
    private static final int[] FAR = {Edges.LEAST, -1, 41, Edges.MOST};

    /** What a call answers, and what item i of a sheet is behind it, if 8 items from there on are 0 .. 999. */
    private static void item(String call, Edges.Ask ask, long answer, int sheet, int sort, int i, int due) {
        E.due(call, ask, answer);
        E.due(call + ": item " + i + " of sheet " + sheet, x -> {
            ask.of(x);
            int row = x.rowOf(sheet, sort, i);
            return row < 0 ? row : x.rowTold(row, 0);
        }, due);
    }

    /** "A SHEET becomes a row of n of a sort .. BAD: no such SHEET, sort; n above 40; -14". */
    private static void sheet() {
        E.house(Edges::some);
        E.range("sheet", 0, 3, (x, n) -> x.sheet(n, 0, 8), -2);
        E.range("sheet of a sort, or none", -1, 2, (x, n) -> x.sheet(0, n, 8), -2);
        for (int n : new int[] {0, 1, 39, 40}) {
            E.due("sheet of " + n, x -> x.sheet(0, 2, n), 1);
            E.due("sheet 3, missing till then, of " + n, x -> x.sheet(3, 2, n), 1);
        }
        for (int sort = 0; sort <= 2; sort++) {
            int s = sort;
            E.refused("sheet of 41, sort " + s, x -> x.sheet(0, s, 41), -2);
            E.refused("sheet of 42, sort " + s, x -> x.sheet(3, s, 42), -2);
            E.refused("sheet of the most, sort " + s, x -> x.sheet(0, s, Edges.MOST), -2);
            E.refused("sheet of -1, sort " + s, x -> x.sheet(0, s, -1), -14);
            E.refused("sheet of -2, sort " + s, x -> x.sheet(3, s, -2), -14);
            E.refused("sheet of the least, sort " + s, x -> x.sheet(0, s, Edges.LEAST), -14);
        }
        for (int n : FAR) {
            E.refused("sheet -1 of " + n + ": BAD first", x -> x.sheet(-1, 0, n), -2);
            E.refused("sheet 4 of " + n + ": BAD first", x -> x.sheet(4, 0, n), -2);
            E.refused("sort 3 of " + n + ": BAD first", x -> x.sheet(0, 3, n), -2);
            E.refused("sort -2 of " + n + ": BAD first", x -> x.sheet(0, -2, n), -2);
            E.refused("sheet -1, missing, of " + n, x -> x.sheet(-1, -1, n), -2);
            E.refused("sheet 4, missing, of " + n, x -> x.sheet(4, -1, n), -2);
        }
    }

    /** The last item of a sheet is there, the next one is not: a sheet of 0, 1, 39 and 40. */
    private static void sizes() {
        for (int n : new int[] {0, 1, 2, 8, 39, 40}) {
            for (int sort = 0; sort <= 2; sort++) {
                int s = sort;
                E.house(x -> x.sheet(3, s, n));
                if (n > 0) {
                    E.due("the last of " + n, x -> x.cell(3, n - 1, 5), 1);
                    E.due("the first of " + n, x -> x.cell(3, 0, 5), 1);
                }
                E.refused("behind the last of " + n, x -> x.cell(3, n, 5), -12);
                E.refused("ahead of the first of " + n, x -> x.cell(3, -1, 5), -12);
            }
        }
    }

    /** "all 0": also where there were others; a smaller, a greater one, one of another sort. */
    private static void allZero() {
        E.house(x -> {
            x.sheet(0, 2, 16);
            for (int i = 0; i < 16; i++) {
                x.cell(0, i, 7);
            }
        });
        for (int sort = 0; sort <= 2; sort++) {
            for (int n : new int[] {8, 15, 16, 17, 40}) {
                int s = sort;
                for (int from = 0; from + 8 <= n; from++) {
                    int first = from;
                    item("made anew of " + n, x -> x.sheet(0, s, n), 1, 0, s, first, 0);
                }
            }
        }
        item("gone and made anew", x -> x.sheet(0, -1, 0) * x.sheet(0, 2, 16), 1, 0, 2, 8, 0);
    }

    /** "or missing (sort -1: n does not matter): 1"; a sheet that is missing already, too. */
    private static void missing() {
        E.house(Edges::some);
        for (int n : new int[] {Edges.LEAST, -1, 0, 1, 40, 41, Edges.MOST}) {
            for (int sheet = 0; sheet < 4; sheet++) {
                int s = sheet;
                E.due("sheet " + s + " goes, n " + n, x -> x.sheet(s, -1, n), 1);
                E.then("sheet " + s + " is missing, n " + n, x -> x.sheet(s, -1, n), x -> x.cell(s, 0, 0), -11);
            }
        }
        E.then("the others stay", x -> x.sheet(0, -1, 0), x -> x.cell(1, 0, 0), 1);
    }

    /** "Item i of a SHEET becomes v: 1. BAD: no such SHEET; -11; -12". */
    private static void cell() {
        E.house(Edges::some);
        for (int sheet = 0; sheet < 3; sheet++) {
            int s = sheet;
            E.due("cell of sheet " + s, x -> x.cell(s, 0, 0), 1);
        }
        for (int bad : new int[] {Edges.LEAST, -1, 4, Edges.MOST}) {
            E.refused("cell of sheet " + bad, x -> x.cell(bad, 0, 0), -2);
        }
        E.range("cell of 8 bytes", 0, 7, (x, n) -> x.cell(0, n, 0), -12);
        E.range("cell of 9 shorts", 0, 8, (x, n) -> x.cell(1, n, 0), -12);
        E.range("cell of 10 ints", 0, 9, (x, n) -> x.cell(2, n, 0), -12);
        E.refused("a missing sheet", x -> x.cell(3, 0, 0), -11);
        for (int i : FAR) {
            E.refused("a missing sheet, item " + i + ": -11 first", x -> x.cell(3, i, 0), -11);
            E.refused("no such sheet, item " + i + ": BAD first", x -> x.cell(4, i, 0), -2);
            E.refused("no such sheet, item " + i + ": BAD first", x -> x.cell(-1, i, 0), -2);
        }
    }

    private static void becomes(int sort, int v, int due) {
        E.house(x -> x.sheet(0, sort, 8));
        item("sort " + sort + " of " + v, x -> x.cell(0, 0, v), 1, 0, sort, 0, due);
    }

    /** "(of bytes, shorts its lowest 8, 16 bits)"; bytes and shorts have a sign; "STATE: one is not 0 .. 999". */
    private static void lowestBits() {
        int[] bytes = {0, 1, 126, 127, 128, 129, 254, 255, 256, 257, 383, 384, -1, -128, -129, -255, -256, 65536, 65663,
            65664, Edges.LEAST, Edges.MOST};
        int[] told = {0, 1, 126, 127, -3, -3, -3, -3, 0, 1, 127, -3, -3, -3, 127, 1, 0, 0, 127, -3, 0, -3};
        for (int i = 0; i < bytes.length; i++) {
            becomes(0, bytes[i], told[i]);
        }
        int[] shorts = {0, 1, 127, 128, 255, 256, 998, 999, 1000, 1001, 32767, 32768, 65535, 65536, 65537, 66535, 66536,
            -1, -32768, -32769, -64537, -65535, -65536, Edges.LEAST, Edges.MOST};
        int[] toldToo = {0, 1, 127, 128, 255, 256, 998, 999, -3, -3, -3, -3, -3, 0, 1, 999, -3,
            -3, -3, -3, 999, 1, 0, 0, -3};
        for (int i = 0; i < shorts.length; i++) {
            becomes(1, shorts[i], toldToo[i]);
        }
        int[] ints = {0, 1, 998, 999, 1000, 1001, 65535, 65536, 65537, -1, -2, -65536, Edges.LEAST, Edges.MOST};
        int[] toldThird = {0, 1, 998, 999, -3, -3, -3, -3, -3, -3, -3, -3, -3, -3};
        for (int i = 0; i < ints.length; i++) {
            becomes(2, ints[i], toldThird[i]);
        }
    }

    /** Sheets 0 and 1 of 8 and 10 ints, 1 .. 8 and 11 .. 20; sheet 2 of 8 shorts, sheet 3 missing. */
    private static void twoSheets(LampHouse x) {
        x.sheet(0, 2, 8);
        x.sheet(1, 2, 10);
        x.sheet(2, 1, 8);
        for (int i = 0; i < 10; i++) {
            x.cell(0, i, 1 + i);
            x.cell(1, i, 11 + i);
        }
    }

    /** "BAD: no such SHEET; -11; -13: they are of unlike sorts; -12": each ahead of what comes behind it. */
    private static void copyRefused() {
        E.house(HostEdgesTest::twoSheets);
        for (int bad : new int[] {Edges.LEAST, -1, 4, Edges.MOST}) {
            E.refused("copy of sheet " + bad, x -> x.copy(bad, 0, 0, 0, 0), -2);
            E.refused("copy to sheet " + bad, x -> x.copy(0, 0, bad, 0, 0), -2);
            E.refused("copy of sheet " + bad + " to a missing one: BAD first", x -> x.copy(bad, 0, 3, 0, 0), -2);
            E.refused("copy of a missing one to sheet " + bad + ": BAD first", x -> x.copy(3, 0, bad, 0, 0), -2);
            E.refused("copy of sheet " + bad + ", n -1: BAD first", x -> x.copy(bad, 0, 0, 0, -1), -2);
        }
        for (int n : new int[] {-1, 0, 1, 41}) {
            E.refused("copy of a missing one, n " + n, x -> x.copy(3, 0, 0, 0, n), -11);
            E.refused("copy to a missing one, n " + n, x -> x.copy(2, 0, 3, 0, n), -11);
            E.refused("copy of a missing one to itself, n " + n, x -> x.copy(3, 0, 3, 0, n), -11);
            E.refused("copy of ints to shorts, n " + n, x -> x.copy(0, 0, 2, 0, n), -13);
            E.refused("copy of shorts to ints, n " + n, x -> x.copy(2, 0, 1, 0, n), -13);
        }
        E.refused("copy to a missing one, from outside: -11 first", x -> x.copy(0, -1, 3, 99, 1), -11);
        E.refused("copy to another sort, from outside: -13 first", x -> x.copy(0, -1, 2, 99, 1), -13);
        for (int one = 0; one <= 2; one++) {
            for (int other = 0; other <= 2; other++) {
                int a = one;
                int b = other;
                E.then("sorts " + a + " and " + b, x -> x.sheet(0, a, 4) * x.sheet(1, b, 4), x -> x.copy(0, 0, 1, 0, 4),
                    a == b ? 4 : -13);
            }
        }
    }

    /** "-12 (also with n below 0)": from and to, at each end, with neighbours. */
    private static void copyOutside() {
        E.house(HostEdgesTest::twoSheets);
        E.range("copy from item i", 0, 7, (x, i) -> x.copy(0, i, 1, 0, 1), -12);
        E.range("copy to item j", 0, 9, (x, j) -> x.copy(0, 0, 1, j, 1), -12);
        E.range("copy of n", 0, 8, (x, n) -> x.copy(0, 0, 1, 0, n), -12);
        E.range("copy of n from 10 to 8", 0, 8, (x, n) -> x.copy(1, 0, 0, 0, n), -12);
        E.range("copy of none from item i", 0, 8, (x, i) -> x.copy(0, i, 1, 0, 0), -12);
        E.range("copy of none to item j", 0, 10, (x, j) -> x.copy(0, 0, 1, j, 0), -12);
        E.range("copy of n from item 5", 0, 3, (x, n) -> x.copy(0, 5, 1, 0, n), -12);
        E.range("copy of n to item 5", 0, 5, (x, n) -> x.copy(0, 0, 1, 5, n), -12);
        E.range("copy of 3 from item i", 0, 5, (x, i) -> x.copy(0, i, 1, 0, 3), -12);
        E.range("copy of 3 to item j", 0, 7, (x, j) -> x.copy(0, 0, 1, j, 3), -12);
        int[] far = {Edges.LEAST, Edges.LEAST + 1, -1, 11, Edges.MOST - 1, Edges.MOST};
        for (int i : far) {
            for (int n : far) {
                E.refused("copy of " + n + " from " + i, x -> x.copy(0, i, 1, 0, n), -12);
                E.refused("copy of " + n + " to " + i, x -> x.copy(0, 0, 1, i, n), -12);
                E.refused("copy of " + n + " from and to " + i, x -> x.copy(0, i, 1, i, n), -12);
            }
        }
        E.house(x -> x.sheet(0, 0, 0));
        E.due("of no items none", x -> x.copy(0, 0, 0, 0, 0), 0);
        E.refused("of no items one", x -> x.copy(0, 0, 0, 0, 1), -12);
        E.refused("of no items none from 1 on", x -> x.copy(0, 1, 0, 0, 0), -12);
        E.refused("of no items none to 1", x -> x.copy(0, 0, 0, 1, 0), -12);
    }

    private static void copied(String call, Edges.Ask ask, int answer, int sheet, int... due) {
        E.due(call, ask, answer);
        for (int i = 0; i < due.length; i++) {
            int at = i;
            E.due(call + ": item " + i, x -> {
                ask.of(x);
                int from = Math.min(at, due.length - 8);
                return x.rowTold(x.rowOf(sheet, 2, from), at - from);
            }, due[i]);
        }
    }

    /** "come to another one's item j on (as they were): n": to the first, to the last item, within one sheet. */
    private static void copy() {
        E.house(HostEdgesTest::twoSheets);
        copied("none", x -> x.copy(0, 0, 1, 0, 0), 0, 1, 11, 12, 13, 14, 15, 16, 17, 18, 19, 20);
        copied("the first", x -> x.copy(0, 0, 1, 0, 1), 1, 1, 1, 12, 13, 14, 15, 16, 17, 18, 19, 20);
        copied("the last to the last", x -> x.copy(0, 7, 1, 9, 1), 1, 1, 11, 12, 13, 14, 15, 16, 17, 18, 19, 8);
        copied("all to the first", x -> x.copy(0, 0, 1, 0, 8), 8, 1, 1, 2, 3, 4, 5, 6, 7, 8, 19, 20);
        copied("all to the last", x -> x.copy(0, 0, 1, 2, 8), 8, 1, 11, 12, 1, 2, 3, 4, 5, 6, 7, 8);
        copied("what was copied stays", x -> x.copy(0, 0, 1, 2, 8), 8, 0, 1, 2, 3, 4, 5, 6, 7, 8);
        copied("up by one", x -> x.copy(0, 0, 0, 1, 7), 7, 0, 1, 1, 2, 3, 4, 5, 6, 7);
        copied("down by one", x -> x.copy(0, 1, 0, 0, 7), 7, 0, 2, 3, 4, 5, 6, 7, 8, 8);
        copied("up by seven", x -> x.copy(0, 0, 0, 7, 1), 1, 0, 1, 2, 3, 4, 5, 6, 7, 1);
        copied("onto itself", x -> x.copy(0, 0, 0, 0, 8), 8, 0, 1, 2, 3, 4, 5, 6, 7, 8);
    }

    /** "BAD: no such SHEET, sort; -13; -11; -12; STATE: one is not 0 .. 999; FULL". */
    private static void rowOf() {
        E.house(Edges::some);
        for (int bad : new int[] {Edges.LEAST, -1, 4, Edges.MOST}) {
            E.refused("rowOf of sheet " + bad, x -> x.rowOf(bad, 0, 0), -2);
            E.refused("rowOf of sheet " + bad + " from 99: BAD first", x -> x.rowOf(bad, 0, 99), -2);
        }
        for (int bad : new int[] {Edges.LEAST, -1, 3, Edges.MOST}) {
            for (int sheet = 0; sheet < 4; sheet++) {
                int s = sheet;
                E.refused("rowOf of sheet " + s + " for sort " + bad, x -> x.rowOf(s, bad, 0), -2);
                E.refused("rowOf of sheet " + s + " for sort " + bad + " from -1: BAD first", x -> x.rowOf(s, bad, -1), -2);
            }
        }
        for (int sheet = 0; sheet < 3; sheet++) {
            for (int sort = 0; sort < 3; sort++) {
                int s = sheet;
                int taken = sort;
                if (s == taken) {
                    E.due("sheet " + s + " for its sort", x -> x.rowOf(s, taken, 0), 3);
                } else {
                    E.refused("sheet " + s + " for sort " + taken, x -> x.rowOf(s, taken, 0), -13);
                    E.refused("sheet " + s + " for sort " + taken + ", outside: -13 first", x -> x.rowOf(s, taken, 99), -13);
                }
            }
        }
        for (int sort = 0; sort < 3; sort++) {
            for (int from : new int[] {Edges.LEAST, -1, 0, 1, Edges.MOST}) {
                int s = sort;
                E.refused("a missing one for sort " + s + " from " + from, x -> x.rowOf(3, s, from), -11);
            }
        }
    }

    /** "from one on", 8 of them: a sheet of 7, 8, 9, 10 and 40. */
    private static void rowFrom() {
        for (int sort = 0; sort < 3; sort++) {
            int s = sort;
            for (int size : new int[] {0, 1, 7}) {
                E.house(x -> x.sheet(0, s, size));
                for (int from : new int[] {Edges.LEAST, -1, 0, 1, 7, 8, Edges.MOST}) {
                    E.refused("8 of " + size + " from " + from, x -> x.rowOf(0, s, from), -12);
                }
            }
            for (int size : new int[] {8, 9, 10, 40}) {
                E.house(x -> {
                    x.sheet(0, s, size);
                    x.cell(0, 0, 70);
                    x.cell(0, size - 1, 7);
                });
                E.range("8 of " + size, 0, size - 8, (x, from) -> x.rowOf(0, s, from), -12);
                E.then("the first of " + size, x -> x.rowOf(0, s, 0), x -> x.rowTold(0, 0), 70);
                E.then("the last of " + size, x -> x.rowOf(0, s, size - 8), x -> x.rowTold(0, 7), 7);
            }
        }
    }

    /** "STATE: one is not 0 .. 999": each of the eight; not those beside them; behind -12, ahead of FULL. */
    private static void rowState() {
        for (int rows : new int[] {0, 29, 30}) {
            for (int v : new int[] {Edges.LEAST, -1, 0, 1, 998, 999, 1000, Edges.MOST}) {
                boolean stands = v >= 0 && v <= 999;
                for (int at = 0; at < 10; at++) {
                    int place = at;
                    E.house(x -> {
                        for (int i = 0; i < rows; i++) {
                            x.row(i, 0);
                        }
                        x.sheet(0, 2, 10);
                        x.cell(0, place, v);
                    });
                    boolean isBeside = at == 0 || at == 9;
                    String what = v + " at " + at + " beside " + rows + " rows";
                    if (!stands && !isBeside) {
                        E.refused(what, x -> x.rowOf(0, 2, 1), -3);
                    } else if (rows == 30) {
                        E.refused(what, x -> x.rowOf(0, 2, 1), -4);
                    } else {
                        E.due(what, x -> x.rowOf(0, 2, 1), rows);
                        E.then(what + " is told", x -> x.rowOf(0, 2, 1), x -> x.rowTold(rows, isBeside ? 0 : place - 1),
                            isBeside ? 0 : v);
                    }
                    E.refused(what + ", outside: -12 first", x -> x.rowOf(0, 2, 3), -12);
                    E.refused(what + ", another sort: -13 first", x -> x.rowOf(0, 1, 3), -13);
                    E.refused(what + ", a missing one: -11 first", x -> x.rowOf(1, 1, 3), -11);
                    E.refused(what + ", no such sort: BAD first", x -> x.rowOf(0, 3, 3), -2);
                }
            }
        }
    }

    /** "A THING taken for one of KIND k (0 .. 5) .. BAD: k; -11: no such THING; -13". */
    private static void taken() {
        String[] under = {"0", "01", "02", "013", "024", "025"};
        E.house(x -> {
            x.row(0, 0);
            for (int kind = 0; kind < 6; kind++) {
                x.thing(kind, 0, 94 + kind);
            }
            x.thing(5, 0, 0);
        });
        for (int kind = 0; kind < 6; kind++) {
            for (int k = 0; k < 6; k++) {
                int thing = kind;
                int taken = k;
                if (under[kind].indexOf('0' + k) >= 0) {
                    E.due("kind " + kind + " for " + k, x -> x.taken(thing, taken), 94 + kind);
                } else {
                    E.refused("kind " + kind + " for " + k, x -> x.taken(thing, taken), -13);
                }
            }
        }
        E.due("number 0", x -> x.taken(6, 2), 0);
        E.range("taken for k", 0, 5, (x, k) -> x.taken(k, k), -2);
        E.range("a thing taken", 0, 6, (x, n) -> x.taken(n, 0), -11);
        for (int bad : new int[] {Edges.LEAST, -1, 6, Edges.MOST}) {
            E.refused("no such thing for " + bad + ": BAD first", x -> x.taken(7, bad), -2);
            E.refused("thing -1 for " + bad + ": BAD first", x -> x.taken(-1, bad), -2);
            E.refused("thing 0 for " + bad, x -> x.taken(0, bad), -2);
        }
        for (int k = 0; k < 6; k++) {
            int taken = k;
            E.refused("no such thing for " + k + ": -11 ahead of -13", x -> x.taken(7, taken), -11);
        }
        E.house(Edges::full);
        E.range("of 20 things one taken", 0, 19, (x, n) -> x.taken(n, 0), -11);
    }

    public static void main(String[] args) {
        sheet();
        sizes();
        allZero();
        missing();
        cell();
        lowestBits();
        copyRefused();
        copyOutside();
        copy();
        rowOf();
        rowFrom();
        rowState();
        taken();
        E.end();
    }
}
