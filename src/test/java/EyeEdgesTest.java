/** The edges of promises 11 to 14: eye, seen, same, twins. */
public final class EyeEdgesTest {
    private static final Edges E = new Edges("eye edges");

    /** "An EYE (third: a ROW, or -1: it has 2 TAKERS): its number. BAD". */
    private static void eye() {
        E.house(Edges::some);
        E.range("eye, the first", 0, 2, (x, n) -> x.eye(n, 0, 0), -2);
        E.range("eye, the second", 0, 2, (x, n) -> x.eye(0, n, 0), -2);
        E.range("eye, the third, or none", -1, 2, (x, n) -> x.eye(0, 0, n), -2);
        E.refused("the first -1, as if it were missing", x -> x.eye(-1, 0, -1), -2);
        E.refused("the second -1, as if it were missing", x -> x.eye(0, -1, -1), -2);
        E.refused("the second 3, no third", x -> x.eye(0, 3, -1), -2);
        E.refused("none of them", x -> x.eye(3, 3, 3), -2);
        E.due("one row thrice", x -> x.eye(2, 2, 2), 2);
    }

    /** "EYES (8 at most, numbered from 0) have 2 or 3 TAKERS". */
    private static void takers() {
        E.house(Edges::some);
        E.range("a taker of two", 0, 1, (x, n) -> x.seen(0, n, 0), Edges.NO);
        E.range("a taker of three", 0, 2, (x, n) -> x.seen(1, n, 0), Edges.NO);
        E.due("a third of row 0", x -> x.seen(x.eye(1, 1, 0), 2, 2), 100);
        E.due("no third", x -> x.seen(x.eye(1, 1, -1), 2, 2), Edges.NO);
    }

    private static void eyes(LampHouse x, int n) {
        Edges.some(x);
        for (int i = 2; i < n; i++) {
            x.eye(0, 1, 2);
        }
    }

    /** "EYES (8 at most, numbered from 0)"; "BAD; FULL". */
    private static void mostEyes() {
        E.house(x -> x.row(0, 0));
        E.due("the first eye", x -> x.eye(0, 0, -1), 0);
        E.house(x -> eyes(x, 6));
        E.due("the 7th eye", x -> x.eye(0, 0, -1), 6);
        E.house(x -> eyes(x, 7));
        E.due("the 8th eye", x -> x.eye(0, 0, -1), 7);
        E.due("the 8th eye sees", x -> x.seen(x.eye(0, 0, 2), 2, 1), 999);
        E.house(x -> eyes(x, 8));
        E.refused("the 9th eye", x -> x.eye(0, 0, -1), -4);
        E.refused("the 9th eye, of three", x -> x.eye(0, 0, 0), -4);
        E.refused("the first -1: BAD ahead of FULL", x -> x.eye(-1, 0, 0), -2);
        E.refused("the first 3: BAD ahead of FULL", x -> x.eye(3, 0, 0), -2);
        E.refused("the second -1: BAD ahead of FULL", x -> x.eye(0, -1, 0), -2);
        E.refused("the second 3: BAD ahead of FULL", x -> x.eye(0, 3, 0), -2);
        E.refused("the third -2: BAD ahead of FULL", x -> x.eye(0, 0, -2), -2);
        E.refused("the third 3: BAD ahead of FULL", x -> x.eye(0, 0, 3), -2);
    }

    /** "SEEN of a LIGHT by a TAKER of an EYE. NO: none such." */
    private static void seen() {
        E.house(Edges::some);
        E.range("seen by an eye", 0, 1, (x, n) -> x.seen(n, 0, 0), Edges.NO);
        E.range("seen of a light", 0, 2, (x, n) -> x.seen(0, 0, n), Edges.NO);
        E.refused("none of them", x -> x.seen(2, 3, 3), Edges.NO);
        E.due("by the first taker", x -> x.seen(0, 0, 2), 100);
        E.due("by the second taker", x -> x.seen(0, 1, 2), 999);
        E.due("by the third taker", x -> x.seen(1, 2, 2), 999);
        E.due("nothing is there that it sees", x -> x.seen(x.eye(0, x.row(0, 1), -1), 1, 2), 0);
        E.house(Edges::full);
        E.range("seen by 8 eyes", 0, 7, (x, n) -> x.seen(n, 1, 19), Edges.NO);
        E.range("seen of 20 lights", 0, 19, (x, n) -> x.seen(7, 2, n), Edges.NO);
    }

    /** More than an int holds: the light that is made by doubling as often as there is room. */
    private static void muchIsSeen() {
        for (int n = 10; n <= 20; n++) {
            int last = n - 1;
            E.house(x -> {
                x.row(999999999999L, 999999999999L);
                x.eye(0, 0, 0);
                x.light(0);
                for (int i = 0; i < last; i++) {
                    x.both(i, i);
                }
            });
            E.due("doubled " + last + " times", x -> x.seen(0, 2, last), (8L * 999 * 999) << last);
        }
    }

    /** "Whether two LIGHTS are SAME to an EYE (1, 0). BAD." */
    private static void same() {
        E.house(Edges::some);
        E.range("same to an eye", 0, 1, (x, n) -> x.same(n, 0, 0), -2);
        E.range("same, the one", 0, 2, (x, n) -> x.same(0, n, 0), -2);
        E.range("same, the other", 0, 2, (x, n) -> x.same(0, 0, n), -2);
        E.refused("none of them", x -> x.same(2, 3, 3), -2);
        E.house(Edges::full);
        E.range("same to 8 eyes", 0, 7, (x, n) -> x.same(n, 19, 19), -2);
    }

    /** "if all its TAKERS see like numbers": one of them sees 1 less, as much, 1 more. */
    private static void allTakers() {
        for (int which = 0; which < 3; which++) {
            for (int n = 499; n <= 501; n++) {
                int[] row = {0, 0, 0};
                row[which] = n;
                int due = n == 500 ? 1 : 0;
                String who = "taker " + which + " sees " + n + " and 500";
                E.house(x -> {
                    Check.row(x, 1);
                    Check.row(x, 0, 1);
                    Check.row(x, 0, 0, 1);
                    Check.row(x, row);
                    int[] other = row.clone();
                    other[row[0] > 0 ? 0 : row[1] > 0 ? 1 : 2] = 500;
                    Check.row(x, other);
                    x.eye(0, 1, 2);
                    x.eye(0, 1, -1);
                    x.light(3);
                    x.light(4);
                });
                E.due(who, x -> x.same(0, 0, 1), due);
                E.due(who + ", the other way", x -> x.same(0, 1, 0), due);
                E.due(who + ", to an eye of two", x -> x.same(1, 0, 1), which == 2 ? 1 : due);
            }
        }
    }

    /** Lights that are all one to eye 0 and all unlike to eye 1. */
    private static void alike(LampHouse x, int n) {
        Check.row(x, 1, 1);
        Check.row(x, 1);
        Check.row(x, 1, 0);
        Check.row(x, 0, 1);
        x.eye(0, 0, -1);
        x.eye(1, 1, -1);
        for (int i = 0; i < n; i++) {
            x.light(Check.row(x, i, 100 - i));
        }
    }

    /** "i = -1: how many pairs; else pair i as 100 * the first LIGHT and the second one .. NONE: none such". */
    private static void twins() {
        int[] due = {1, 2, 3, 102, 103, 203};
        E.house(x -> alike(x, 4));
        E.due("how many", x -> x.twins(0, 1, -1), 6);
        for (int i = 0; i < due.length; i++) {
            int asked = i;
            E.due("pair " + i, x -> x.twins(0, 1, asked), due[i]);
        }
        for (int i : new int[] {Edges.LEAST, -3, -2, 6, 7, Edges.MOST}) {
            E.refused("pair " + i, x -> x.twins(0, 1, i), -1);
        }
        E.due("the other way, how many", x -> x.twins(1, 0, -1), 0);
        E.refused("the other way, pair 0", x -> x.twins(1, 0, 0), -1);
        E.due("an eye with itself, how many", x -> x.twins(0, 0, -1), 0);
        E.refused("an eye with itself, pair 0", x -> x.twins(0, 0, 0), -1);
    }

    /** As many lights as there can be: 190 pairs; and none, one, two lights. */
    private static void pairsOfLights() {
        int[] pairs = {0, 0, 1, 3};
        for (int n = 0; n < pairs.length; n++) {
            int lights = n;
            E.house(x -> alike(x, lights));
            E.due("pairs of " + n, x -> x.twins(0, 1, -1), pairs[n]);
            E.refused("pair " + pairs[n] + " of " + n, x -> x.twins(0, 1, pairs[lights]), -1);
        }
        E.house(x -> alike(x, 20));
        E.due("pairs of 20", x -> x.twins(0, 1, -1), 190);
        E.due("pair 18", x -> x.twins(0, 1, 18), 19);
        E.due("pair 19", x -> x.twins(0, 1, 19), 102);
        E.due("pair 188", x -> x.twins(0, 1, 188), 1719);
        E.due("pair 189", x -> x.twins(0, 1, 189), 1819);
        E.refused("pair 190", x -> x.twins(0, 1, 190), -1);
    }

    /** "BAD: EYES; NONE": BAD comes first. */
    private static void twinsOfNoEyes() {
        E.house(x -> alike(x, 4));
        E.range("twins, the one", 0, 1, (x, n) -> x.twins(n, 1, -1), -2);
        E.range("twins, the other", 0, 1, (x, n) -> x.twins(0, n, -1), -2);
        for (int i : new int[] {-2, 6, Edges.MOST}) {
            E.refused("no such eye and no such pair", x -> x.twins(2, 0, i), -2);
            E.refused("no such other eye and no such pair", x -> x.twins(0, 2, i), -2);
            E.refused("eye -1 and no such pair", x -> x.twins(-1, 0, i), -2);
            E.refused("other eye -1 and no such pair", x -> x.twins(0, -1, i), -2);
        }
    }

    public static void main(String[] args) {
        eye();
        takers();
        mostEyes();
        seen();
        muchIsSeen();
        same();
        allTakers();
        twins();
        pairsOfLights();
        twinsOfNoEyes();
        E.end();
    }
}
