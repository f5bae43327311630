/** The edges of promises 23 to 25: plate, reads, chart. */
public final class PlateEdgesTest {
    private static final Edges E = new Edges("plate edges");

    /** Light c has colour c alone, light 8 nothing; 8 rows of one colour and one of none. */
    private static void lights(LampHouse x) {
        for (int c = 0; c < 8; c++) {
            int[] row = new int[8];
            row[c] = 1;
            x.light(Check.row(x, row));
        }
        x.light(Check.row(x));
    }

    private static void plates(LampHouse x, int n) {
        lights(x);
        for (int i = 0; i < n; i++) {
            x.plate(i % 8, 8);
        }
    }

    /** "A PLATE: its number. BAD". */
    private static void plate() {
        E.house(Edges::some);
        E.range("plate, the one", 0, 2, (x, n) -> x.plate(n, 0), -2);
        E.range("plate, the other", 0, 2, (x, n) -> x.plate(0, n), -2);
        E.refused("neither", x -> x.plate(3, 3), -2);
        E.due("one light twice", x -> x.plate(2, 2), 2);
        E.house(Edges::none);
        E.refused("without lights", x -> x.plate(0, 0), -2);
    }

    /** "PLATES (10 at most, numbered from 0)"; "BAD; FULL". */
    private static void mostPlates() {
        E.house(x -> plates(x, 0));
        E.due("the first plate", x -> x.plate(0, 1), 0);
        E.house(x -> plates(x, 8));
        E.due("the 9th plate", x -> x.plate(0, 1), 8);
        E.house(x -> plates(x, 9));
        E.due("the 10th plate", x -> x.plate(0, 1), 9);
        E.house(x -> plates(x, 10));
        E.refused("the 11th plate", x -> x.plate(0, 1), -4);
        E.refused("light 9: BAD ahead of FULL", x -> x.plate(9, 0), -2);
        E.refused("light -1: BAD ahead of FULL", x -> x.plate(-1, 0), -2);
        E.refused("the other 9: BAD ahead of FULL", x -> x.plate(0, 9), -2);
        E.refused("the other -1: BAD ahead of FULL", x -> x.plate(0, -1), -2);
    }

    /** "PLATES (bits) that an EYE READS. BAD." */
    private static void reads() {
        E.house(Edges::some);
        E.range("reads", 0, 1, (x, n) -> x.reads(n), -2);
        E.house(Edges::full);
        E.range("reads of 8 eyes", 0, 7, (x, n) -> x.reads(n), -2);
        E.house(Edges::none);
        E.refused("without eyes", x -> x.reads(0), -2);
        E.house(x -> plates(x, 0));
        E.due("without plates", x -> x.reads(x.eye(0, 1, -1)), 0);
        E.house(x -> plates(x, 10));
        E.due("plates 0 and 8", x -> x.reads(x.eye(0, 0, -1)), 1 | 256);
        E.due("plates 1 and 9", x -> x.reads(x.eye(1, 1, -1)), 2 | 512);
        E.due("plate 7", x -> x.reads(x.eye(7, 7, -1)), 128);
        E.due("no plate", x -> x.reads(x.eye(8, 8, 8)), 0);
        E.due("by the second taker", x -> x.reads(x.eye(8, 2, -1)), 4);
        E.due("by the third taker", x -> x.reads(x.eye(8, 8, 2)), 4);
        E.due("all plates", x -> x.reads(x.eye(Check.row(x, 1, 1, 1, 1, 1, 1, 1, 1), 8, -1)), 1023);
        E.house(x -> {
            plates(x, 8);
            x.plate(0, 0);
            x.plate(0, 8);
        });
        E.due("a plate of one light twice", x -> x.reads(x.eye(0, 0, -1)), 1 | 512);
    }

    /** "if these are not SAME to it": 1 less, as much, 1 more. */
    private static void unlikeByOne() {
        for (int n = 499; n <= 501; n++) {
            int much = n;
            E.house(x -> {
                x.light(Check.row(x, 500));
                x.light(Check.row(x, much));
                Check.row(x, 1);
                x.eye(2, 2, 2);
                x.plate(0, 1);
                x.plate(1, 0);
            });
            E.due("a plate of 500 and " + n, x -> x.reads(0), n == 500 ? 0 : 3);
        }
    }

    /** An eye for each set of colours told. */
    private static void eyes(LampHouse x, int... sets) {
        for (int set : sets) {
            int[] row = new int[8];
            for (int c = 0; c < 8; c++) {
                row[c] = set >> c & 1;
            }
            int taker = Check.row(x, row);
            x.eye(taker, taker, -1);
        }
    }

    /** "A CHART for EYES (bits). BAD: bits". */
    private static void chart() {
        E.house(Edges::some);
        E.bits("chart", 2, (x, n) -> x.chart(n));
        E.house(Edges::full);
        E.bits("chart of 8 eyes", 8, (x, n) -> x.chart(n));
        E.house(Edges::none);
        E.due("no eyes are told", x -> x.chart(0), 0);
        E.refused("an eye where there is none", x -> x.chart(1), -2);
        E.house(x -> {
            plates(x, 8);
            eyes(x, 1, 1, 2);
        });
        E.due("no eye", x -> x.chart(0), 0);
        for (int eye = 0; eye < 3; eye++) {
            int told = 1 << eye;
            E.due("one eye", x -> x.chart(told), 0);
        }
        E.refused("BAD ahead of NONE", x -> x.chart(3 | 8), -2);
    }

    /** "NONE: there is none": two eyes that read just the same, beside others, without plates. */
    private static void noChart() {
        E.house(x -> {
            plates(x, 8);
            eyes(x, 1, 2, 4, 1, 0, 0);
        });
        E.refused("two alike", x -> x.chart(1 | 8), -1);
        E.refused("two alike among others", x -> x.chart(15), -1);
        E.refused("two that read nothing", x -> x.chart(16 | 32), -1);
        E.due("one of the two", x -> x.chart(7), 3);
        E.house(x -> {
            plates(x, 0);
            eyes(x, 1, 2);
        });
        E.refused("two eyes without plates", x -> x.chart(3), -1);
        E.due("one eye without plates", x -> x.chart(2), 0);
        E.then("then with a plate", x -> x.plate(0, 8), x -> x.chart(3), 1);
    }

    private static void charted(int plates, int due, int... sets) {
        E.house(x -> {
            plates(x, plates);
            eyes(x, sets);
        });
        E.due("a chart of " + sets.length + " eyes by " + plates + " plates", x -> x.chart((1 << sets.length) - 1), due);
    }

    /** "the fewest PLATES; of like ones the least as bits". */
    private static void fewestPlates() {
        charted(1, 1, 0, 1);
        charted(8, 128, 0, 128);
        charted(10, 1, 0, 255);
        charted(10, 2, 0, 254);
        charted(10, 1, 1, 2);
        charted(10, 3, 1, 2, 4);
        charted(10, 3, 0, 1, 2, 3);
        charted(10, 7, 0, 1, 2, 4);
        charted(10, 12, 0, 4 | 1, 8 | 2, 12);
        // Plates 0, 1, 2 tell all apart as well, and are less as bits, but they are more than 2 and 3.
        charted(4, 12, 1, 6, 8, 12);
        charted(3, 7, 0, 1, 2, 3, 4, 5, 6, 7);
        // One eye that reads nothing and seven of one plate each: each of these plates is needed.
        charted(8, 127, 0, 1, 2, 4, 8, 16, 32, 64);
        charted(8, 254, 0, 128, 2, 4, 8, 16, 32, 64);
        charted(8, -1, 0, 0, 2, 4, 8, 16, 32, 64);
        charted(8, -1, 0, 1, 2, 4, 8, 16, 32, 32);
        charted(8, -1, 32, 1, 2, 4, 8, 16, 64, 32);
    }

    /** "no two READ just the same": of eight eyes each pair may be the one that plate 3 alone tells apart. */
    private static void eachPair() {
        for (int a = 0; a < 8; a++) {
            for (int b = a + 1; b < 8; b++) {
                int[] sets = {0, 1, 2, 3, 4, 5, 6, 7};
                sets[b] = 8 | a;
                charted(3, -1, sets);
                charted(4, 15, sets);
            }
        }
    }

    /** The last plate alone tells them apart. */
    private static void lastPlate() {
        E.house(x -> {
            lights(x);
            for (int i = 0; i < 9; i++) {
                x.plate(8, 8);
            }
            x.plate(3, 8);
            eyes(x, 8, 1);
        });
        E.due("plate 9", x -> x.chart(3), 512);
        E.due("plate 9 is read", x -> x.reads(0), 512);
    }

    public static void main(String[] args) {
        plate();
        mostPlates();
        reads();
        unlikeByOne();
        chart();
        noChart();
        fewestPlates();
        eachPair();
        lastPlate();
        E.end();
    }
}
