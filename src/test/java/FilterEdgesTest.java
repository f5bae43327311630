/** The edges of promises 32 and 33: filter, hidden. */
public final class FilterEdgesTest {
    private static final Edges E = new Edges("filter edges");

    /** "a READING (0 .. 999)"; "A FILTER: its number. BAD". */
    private static void filter() {
        E.house(Edges::some);
        E.range("filter of a row", 0, 2, (x, n) -> x.filter(n, 0), -2);
        E.range("filter of a reading", 0, 999, (x, n) -> x.filter(0, n), -2);
        E.refused("neither row nor reading", x -> x.filter(3, 1000), -2);
        E.house(Edges::none);
        E.refused("without rows", x -> x.filter(0, 0), -2);
    }

    private static void filters(LampHouse x, int n) {
        Check.row(x, 1, 1);
        for (int i = 0; i < n; i++) {
            x.filter(0, 5);
        }
    }

    /** "FILTERS (4 at most, numbered from 0)"; "BAD; FULL". */
    private static void mostFilters() {
        for (int n = 0; n < 4; n++) {
            int there = n;
            E.house(x -> filters(x, there));
            E.due("filter " + n, x -> x.filter(0, 0), n);
            E.then("filter " + n + " counts", x -> x.filter(0, 4), x -> x.hidden(0, 0), n == 0 ? 3 * 4096 : 0);
        }
        E.house(x -> filters(x, 4));
        E.refused("filter 4", x -> x.filter(0, 0), -4);
        E.refused("row 1: BAD ahead of FULL", x -> x.filter(1, 0), -2);
        E.refused("row -1: BAD ahead of FULL", x -> x.filter(-1, 0), -2);
        E.refused("reading 1000: BAD ahead of FULL", x -> x.filter(0, 1000), -2);
        E.refused("reading -1: BAD ahead of FULL", x -> x.filter(0, -1), -2);
        E.due("four alike leave what one leaves", x -> x.hidden(0, 0), 2 * 4096);
    }

    /** Each of four filters is heeded: the n-th of them is the one that nothing fits. */
    private static void eachFilter() {
        for (int n = 0; n < 4; n++) {
            int which = n;
            E.house(x -> {
                Check.row(x, 1);
                for (int i = 0; i < 4; i++) {
                    x.filter(0, i == which ? 4 : 3);
                }
            });
            E.due("filter " + n + " fits nothing", x -> x.hidden(0, 0), 0);
            E.house(x -> {
                for (int i = 0; i < 4; i++) {
                    int[] row = new int[8];
                    row[i == which ? 7 : i] = 1;
                    x.filter(Check.row(x, row), i == which ? 1 : 2);
                }
            });
            E.due("filter " + n + " is of colour 7, least", x -> x.hidden(1, 7), 1);
            E.due("filter " + n + " is of colour 7, most", x -> x.hidden(2, 7), 1);
            E.due("filter " + n + " leaves colour " + n + ", least", x -> x.hidden(1, which), 0);
            E.due("filter " + n + " leaves colour " + n + ", most", x -> x.hidden(2, which), 3);
            E.due("four filters of one colour each", x -> x.hidden(0, 0), 256);
        }
    }

    /** "what 0 how many; 1 the least, 2 the most number of a COLOUR (0 .. 7; for what 0 it does not matter). BAD". */
    private static void hidden() {
        E.house(Edges::some);
        E.range("hidden, what", 0, 2, (x, n) -> x.hidden(n, 0), -2);
        E.range("hidden, the least of a colour", 0, 7, (x, n) -> x.hidden(1, n), -2);
        E.range("hidden, the most of a colour", 0, 7, (x, n) -> x.hidden(2, n), -2);
        E.refused("neither what nor colour", x -> x.hidden(3, 8), -2);
        for (int colour : new int[] {Edges.LEAST, -1, 0, 7, 8, Edges.MOST}) {
            E.due("how many, colour " + colour, x -> x.hidden(0, colour), 16384);
        }
    }

    /** "NONE: none FITS (what 1, 2)", behind BAD; what 0 tells 0 then. */
    private static void noneFits() {
        E.house(x -> {
            Check.row(x, 1);
            x.filter(0, 4);
        });
        for (int colour = 0; colour < 8; colour++) {
            int c = colour;
            E.refused("the least of " + c, x -> x.hidden(1, c), -1);
            E.refused("the most of " + c, x -> x.hidden(2, c), -1);
        }
        E.due("how many", x -> x.hidden(0, 0), 0);
        for (int bad : new int[] {Edges.LEAST, -1, 8, Edges.MOST}) {
            E.refused("colour " + bad + " of the least: BAD ahead of NONE", x -> x.hidden(1, bad), -2);
            E.refused("colour " + bad + " of the most: BAD ahead of NONE", x -> x.hidden(2, bad), -2);
            E.due("how many, colour " + bad, x -> x.hidden(0, bad), 0);
        }
        for (int what : new int[] {Edges.LEAST, -1, 3, Edges.MOST}) {
            E.refused("what " + what + ": BAD ahead of NONE", x -> x.hidden(what, 0), -2);
        }
    }

    /** What fits one filter of a row: how many, then the least and the most of a colour. */
    private static void fits(int reading, int colour, int many, int least, int most, int... row) {
        E.house(x -> {
            Check.row(x, row);
            x.hidden(0, 0);
            x.filter(0, reading);
        });
        String what = "reading " + reading + ", colour " + colour;
        E.due(what + ": how many", x -> x.hidden(0, 0), many);
        E.due(what + ": least", x -> x.hidden(1, colour), least);
        E.due(what + ": most", x -> x.hidden(2, colour), most);
    }

    /** "a number 0 .. 3 for each COLOUR". */
    private static void numbersOfHiddenRows() {
        for (int c = 0; c < 8; c++) {
            int[] row = new int[8];
            row[c] = 1;
            for (int reading = 0; reading <= 3; reading++) {
                fits(reading, c, 16384, reading, reading, row);
                fits(reading, (c + 1) % 8, 16384, 0, 3, row);
            }
            fits(4, c, 0, -1, -1, row);
        }
    }

    /** "a ROW of which each number counts modulo 10". */
    private static void moduloTen() {
        for (int n : new int[] {8, 9, 10, 11, 12, 19, 20, 21, 99, 100, 101, 989, 990, 991, 998, 999}) {
            int counts = n % 10;
            fits(3 * counts, 0, counts == 0 ? 65536 : 16384, counts == 0 ? 0 : 3, 3, n);
            fits(3 * counts + 1, 0, 0, -1, -1, n);
        }
    }

    /** "all of its numbers times those of the FILTER are the READING together": the least and the most there is. */
    private static void readings() {
        int[] nines = {9, 9, 9, 9, 9, 9, 9, 9};
        for (int c = 0; c < 8; c++) {
            fits(0, c, 1, 0, 0, nines);
            fits(9, c, 8, 0, 1, nines);
            fits(207, c, 8, 2, 3, nines);
            fits(216, c, 1, 3, 3, nines);
            for (int none : new int[] {1, 8, 10, 206, 208, 215, 217, 255, 256, 512, 999}) {
                fits(none, c, 0, -1, -1, nines);
            }
        }
        fits(0, 7, 65536, 0, 3);
        fits(1, 7, 0, -1, -1);
        fits(999, 7, 0, -1, -1);
    }

    public static void main(String[] args) {
        filter();
        mostFilters();
        eachFilter();
        hidden();
        noneFits();
        numbersOfHiddenRows();
        moduloTen();
        readings();
        E.end();
    }
}
