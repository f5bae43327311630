/** The edges of promises 26 to 31: age, still, flicker, film, stripes, quietest. */
public final class AgeEdgesTest {
    private static final Edges E = new Edges("age edges");

    /** "AGES: how many. BAD: THING, HOUR (0 .. 9999), hundredths" (0 .. 100). */
    private static void age() {
        E.house(Edges::some);
        E.range("age of a thing", 0, 1, (x, n) -> x.age(n, 0, 0), -2);
        E.range("age at an hour", 0, 9999, (x, n) -> x.age(0, n, 0), -2);
        E.range("age of hundredths", 0, 100, (x, n) -> x.age(0, 0, n), -2);
        E.refused("none of them", x -> x.age(2, 10000, 101), -2);
        E.due("of the least", x -> x.age(0, 0, 0), 4);
        E.due("of the most", x -> x.age(1, 9999, 100), 4);
        E.then("0 hundredths are told", x -> x.age(1, 9999, 0), x -> x.still(1, 9999), 0);
        E.then("100 hundredths are told", x -> x.age(1, 9999, 100), x -> x.still(1, 9999), 100);
    }

    private static void ages(LampHouse x, int n) {
        Edges.some(x);
        for (int i = 3; i < n; i++) {
            x.age(i % 2, 100 + i, 50);
        }
    }

    /** "AGES (40 at most)"; "FULL". */
    private static void mostAges() {
        E.house(x -> {
            x.row(0, 0);
            x.thing(0, 0, 0);
        });
        E.due("the first age", x -> x.age(0, 0, 0), 1);
        E.house(x -> ages(x, 38));
        E.due("the 39th age", x -> x.age(0, 0, 0), 39);
        E.house(x -> ages(x, 39));
        E.due("the 40th age", x -> x.age(1, 9999, 33), 40);
        E.then("the 40th age counts", x -> x.age(1, 9999, 33), x -> x.still(1, 9999), 33);
        E.house(x -> ages(x, 40));
        E.refused("the 41st age", x -> x.age(0, 0, 0), -4);
        E.refused("the 41st age, the other thing's", x -> x.age(1, 9999, 100), -4);
        E.refused("thing 2: BAD ahead of FULL", x -> x.age(2, 0, 0), -2);
        E.refused("thing -1: BAD ahead of FULL", x -> x.age(-1, 0, 0), -2);
        E.refused("hour 10000: BAD ahead of FULL", x -> x.age(0, 10000, 0), -2);
        E.refused("hour -1: BAD ahead of FULL", x -> x.age(0, -1, 0), -2);
        E.refused("hundredths 101: BAD ahead of FULL", x -> x.age(0, 0, 101), -2);
        E.refused("hundredths -1: BAD ahead of FULL", x -> x.age(0, 0, -1), -2);
    }

    /** "STILL of a THING at an HOUR of its life (0 .. 9999). BAD." */
    private static void still() {
        E.house(Edges::some);
        E.range("still of a thing", 0, 1, (x, n) -> x.still(n, 0), -2);
        E.range("still at an hour", 0, 9999, (x, n) -> x.still(0, n), -2);
        E.refused("neither thing nor hour", x -> x.still(2, 10000), -2);
        E.house(Edges::full);
        E.range("still of 20 things", 0, 19, (x, n) -> x.still(n, 0), -2);
    }

    /** Pairs of an hour and hundredths, told in this order of thing 1 of three. */
    private static void table(int... pairs) {
        E.house(x -> {
            x.row(0, 0);
            for (int i = 0; i < 3; i++) {
                x.thing(0, 0, 0);
            }
            x.age(0, 0, 1);
            for (int i = 0; i < pairs.length; i += 2) {
                x.age(1, pairs[i], pairs[i + 1]);
            }
            x.age(0, 9999, 2);
        });
    }

    private static void stands(int hour, int due) {
        E.due("still at " + hour, x -> x.still(1, hour), due);
    }

    /** "100 without any"; "ahead of the first one that one's, behind the last one that one's". */
    private static void aheadAndBehind() {
        table();
        stands(0, 100);
        stands(9999, 100);
        table(10, 40);
        stands(0, 40);
        stands(9, 40);
        stands(10, 40);
        stands(11, 40);
        stands(9999, 40);
        table(20, 60, 10, 40);
        stands(0, 40);
        stands(9, 40);
        stands(10, 40);
        stands(11, 42);
        stands(19, 58);
        stands(20, 60);
        stands(21, 60);
        stands(9999, 60);
        table(0, 0, 9999, 100);
        stands(0, 0);
        stands(99, 0);
        stands(100, 1);
        stands(9998, 99);
        stands(9999, 100);
        table(0, 100, 9999, 0);
        stands(0, 100);
        stands(99, 100);
        stands(100, 99);
        stands(9998, 1);
        stands(9999, 0);
    }

    /** "the earlier one's, and (the later one's less that) times the HOURS since it by the HOURS between them (cut) more". */
    private static void cut() {
        int[] up = {10, 10, 10, 11, 11, 11, 12};
        int[] down = {12, 12, 12, 11, 11, 11, 10};
        for (int hour = 0; hour <= 6; hour++) {
            table(0, 10, 6, 12);
            stands(hour, up[hour]);
            table(6, 10, 0, 12);
            stands(hour, down[hour]);
        }
        table(0, 50, 1, 0, 2, 100);
        stands(0, 50);
        stands(1, 0);
        stands(2, 100);
        table(0, 0, 3, 100);
        stands(1, 33);
        stands(2, 66);
        table(0, 100, 3, 0);
        stands(1, 67);
        stands(2, 34);
        // Of three that are told the two next to it, whichever was told first.
        table(30, 90, 0, 0, 10, 50);
        stands(5, 25);
        stands(9, 45);
        stands(11, 52);
        stands(29, 88);
        table(0, 7, 5000, 7, 9999, 7);
        stands(2500, 7);
    }

    /** "of like HOURS the one told last". */
    private static void likeHours() {
        table(10, 40, 10, 60);
        stands(9, 60);
        stands(10, 60);
        stands(11, 60);
        table(10, 60, 10, 40, 10, 50);
        stands(9, 50);
        stands(10, 50);
        stands(11, 50);
        table(10, 40, 20, 80, 10, 60, 20, 100, 20, 0);
        stands(9, 60);
        stands(10, 60);
        stands(15, 30);
        stands(19, 6);
        stands(20, 0);
        stands(21, 0);
        table(9999, 5, 0, 6, 9999, 7, 0, 8);
        stands(0, 8);
        stands(9999, 7);
    }

    /** "STEPS of a THING become others (0 .. 65535): those till then. BAD"; "16 STEPS (bits; all at first)". */
    private static void flicker() {
        E.house(Edges::some);
        E.range("flicker of a thing", 0, 1, (x, n) -> x.flicker(n, 0), -2);
        E.range("flicker of steps", 0, 65535, (x, n) -> x.flicker(0, n), -2);
        E.refused("neither thing nor steps", x -> x.flicker(2, 65536), -2);
        E.due("those till then", x -> x.flicker(0, 1), 255);
        E.due("all at first", x -> x.flicker(1, 1), 65535);
        for (int steps : new int[] {0, 1, 32767, 32768, 65534, 65535}) {
            E.then("steps " + steps, x -> x.flicker(0, steps), x -> x.thingTold(0, 4), steps);
            E.then("steps " + steps + " till then", x -> x.flicker(0, steps), x -> x.flicker(0, 5), steps);
        }
    }

    private static void house(LampHouse x, int... steps) {
        x.row(0, 0);
        for (int i = 0; i < steps.length; i++) {
            x.thing(0, 0, 0);
            x.flicker(i, steps[i]);
        }
    }

    /** "What row i of a FILM takes. BAD: THING, s, w, i (0 .. 15)." */
    private static void film() {
        E.house(Edges::some);
        E.range("film of a thing", 0, 1, (x, n) -> x.film(n, 0, 1, 0), -2);
        E.range("film by s", 0, 15, (x, n) -> x.film(0, n, 1, 0), -2);
        E.range("film of w", 1, 16, (x, n) -> x.film(0, 0, n, 0), -2);
        E.range("film of row i", 0, 15, (x, n) -> x.film(0, 0, 1, n), -2);
        E.refused("none of them", x -> x.film(2, 16, 17, 16), -2);
        E.house(Edges::full);
        E.range("film of 20 things", 0, 19, (x, n) -> x.film(n, 15, 16, 15), -2);
    }

    /** "the STEPS i times s .. i times s and w - 1 (modulo 16 ..): how many of these it is on". */
    private static void stepsOfFilm() {
        for (int step = 0; step < 16; step++) {
            int on = step;
            E.house(x -> house(x, 1 << on, 65535 ^ 1 << on));
            for (int i = 0; i < 16; i++) {
                int row = i;
                E.due("step " + step + " in row " + i, x -> x.film(0, 1, 1, row), i == step ? 1 : 0);
                E.due("step " + step + " in row " + i + " by 15", x -> x.film(0, 15, 1, row), (16 - i) % 16 == step ? 1 : 0);
                E.due("all but step " + step + " in row " + i, x -> x.film(1, 1, 1, row), i == step ? 0 : 1);
                E.due("step " + step + " in 2 of row " + i, x -> x.film(0, 1, 2, row),
                    i == step || (i + 1) % 16 == step ? 1 : 0);
                E.due("step " + step + " in 15 of row " + i, x -> x.film(0, 1, 15, row), (i + 15) % 16 == step ? 0 : 1);
                E.due("step " + step + " in 16 of row " + i, x -> x.film(0, 1, 16, row), 1);
                E.due("step " + step + " in row " + i + " by 0", x -> x.film(0, 0, 1, row), step == 0 ? 1 : 0);
            }
        }
        E.house(x -> house(x, 65535, 0));
        for (int w = 1; w <= 16; w++) {
            int wide = w;
            E.due("always on, " + w, x -> x.film(0, 15, wide, 15), w);
            E.due("never on, " + w, x -> x.film(1, 15, wide, 15), 0);
        }
    }

    /** "STRIPES of a THING. BAD: THING, n, s, w" (n 1 .. 16). */
    private static void stripes() {
        E.house(Edges::some);
        E.range("stripes of a thing", 0, 1, (x, n) -> x.stripes(n, 1, 0, 1), -2);
        E.range("stripes of n rows", 1, 16, (x, n) -> x.stripes(0, n, 0, 1), -2);
        E.range("stripes by s", 0, 15, (x, n) -> x.stripes(0, 1, n, 1), -2);
        E.range("stripes of w", 1, 16, (x, n) -> x.stripes(0, 1, 0, n), -2);
        E.refused("none of them", x -> x.stripes(2, 17, 16, 17), -2);
        E.house(Edges::full);
        E.range("stripes of 20 things", 0, 19, (x, n) -> x.stripes(n, 16, 15, 16), -2);
    }

    /** "A FILM of rows 0 .. n - 1"; "the greatest of all rows less the least": row n is no part, row n - 1 is. */
    private static void rowsOfFilm() {
        for (int step = 1; step < 16; step++) {
            int on = step;
            E.house(x -> house(x, 1 << on, 65535 ^ 1 << on));
            for (int thing = 0; thing < 2; thing++) {
                int which = thing;
                E.due("step " + step + " in rows below it", x -> x.stripes(which, on, 1, 1), 0);
                E.due("step " + step + " in rows up to it", x -> x.stripes(which, on + 1, 1, 1), 1);
            }
        }
        E.house(x -> house(x, 255, 65535, 0));
        E.due("one row", x -> x.stripes(0, 1, 1, 8), 0);
        E.due("two rows", x -> x.stripes(0, 2, 1, 8), 1);
        E.due("eight rows", x -> x.stripes(0, 8, 1, 8), 7);
        E.due("nine rows", x -> x.stripes(0, 9, 1, 8), 8);
        E.due("sixteen rows", x -> x.stripes(0, 16, 1, 8), 8);
        E.due("rows of all steps", x -> x.stripes(0, 16, 1, 16), 0);
        E.due("rows of one place", x -> x.stripes(0, 16, 0, 8), 0);
        E.due("always on", x -> x.stripes(1, 16, 1, 8), 0);
        E.due("never on", x -> x.stripes(2, 16, 1, 8), 0);
    }

    /** "QUIETEST of THINGS (bits, some). BAD: bits, n, s, w." */
    private static void quietest() {
        E.house(Edges::some);
        E.bits("quietest", 2, (x, n) -> x.quietest(n, 1, 0, 1));
        E.refused("no bits", x -> x.quietest(0, 1, 0, 1), -2);
        E.range("quietest of n rows", 1, 16, (x, n) -> x.quietest(1, n, 0, 1), -2);
        E.range("quietest by s", 0, 15, (x, n) -> x.quietest(1, 1, n, 1), -2);
        E.range("quietest of w", 1, 16, (x, n) -> x.quietest(1, 1, 0, n), -2);
        E.refused("none of them", x -> x.quietest(4, 17, 16, 17), -2);
        E.house(Edges::full);
        E.bits("quietest of 20 things", 20, (x, n) -> x.quietest(n, 16, 15, 16));
        E.due("the last of 20", x -> x.quietest(1 << 19, 16, 15, 16), 19);
        E.due("the first of 20", x -> x.quietest((1 << 20) - 1, 16, 15, 16), 0);
    }

    /** "the one with the fewest STRIPES, of like ones the least". */
    private static void likeStripes() {
        // Rows of 8 steps, 9 of them: stripes of 8, 7, 1, 1, 0, 0.
        E.house(x -> house(x, 255, 127, 1, 32768, 65535, 0));
        E.due("of all", x -> x.quietest(63, 9, 1, 8), 4);
        E.due("without the quietest", x -> x.quietest(63 ^ 16, 9, 1, 8), 5);
        E.due("without both", x -> x.quietest(15, 9, 1, 8), 2);
        E.due("of like ones the last alone", x -> x.quietest(11, 9, 1, 8), 3);
        E.due("of the first two", x -> x.quietest(3, 9, 1, 8), 1);
        E.due("the first alone", x -> x.quietest(1, 9, 1, 8), 0);
        E.due("all alike in one row", x -> x.quietest(63, 1, 1, 8), 0);
        E.due("all alike in one row, but the first", x -> x.quietest(62, 1, 1, 8), 1);
    }

    public static void main(String[] args) {
        age();
        mostAges();
        still();
        aheadAndBehind();
        cut();
        likeHours();
        flicker();
        film();
        stepsOfFilm();
        stripes();
        rowsOfFilm();
        quietest();
        likeStripes();
        E.end();
    }
}
