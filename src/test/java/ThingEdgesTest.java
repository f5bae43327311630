/** The edges of promises 5 to 10: thing, thingTold, light, shine, both, lightTold. */
public final class ThingEdgesTest {
    private static final Edges E = new Edges("thing edges");

    /** "a KIND: 0 .. 5; a ROW, and a NUMBER (0 .. 99)"; "BAD". */
    private static void thing() {
        E.house(Edges::some);
        E.range("thing of a kind", 0, 5, (x, n) -> x.thing(n, 0, 0), -2);
        E.range("thing of a row", 0, 2, (x, n) -> x.thing(0, n, 0), -2);
        E.range("thing of a number", 0, 99, (x, n) -> x.thing(0, 0, n), -2);
        E.due("of the least", x -> x.thing(0, 0, 0), 2);
        E.due("of the most", x -> x.thing(5, 2, 99), 2);
        E.due("kind 5 is told", x -> x.thingTold(x.thing(5, 2, 99), 0), 5);
        E.due("row 2 is told", x -> x.thingTold(x.thing(5, 2, 99), 1), 2);
        E.due("number 99 is told", x -> x.thingTold(x.thing(5, 2, 99), 2), 99);
        E.due("number 0 is told", x -> x.thingTold(x.thing(5, 2, 0), 2), 0);
    }

    private static void things(LampHouse x, int n) {
        Edges.some(x);
        for (int i = 2; i < n; i++) {
            x.thing(0, 0, i);
        }
    }

    /** "THINGS (20 at most, numbered from 0)"; "BAD; FULL". */
    private static void mostThings() {
        E.house(x -> x.row(0, 0));
        E.due("the first thing", x -> x.thing(0, 0, 0), 0);
        E.house(x -> things(x, 18));
        E.due("the 19th thing", x -> x.thing(0, 0, 0), 18);
        E.house(x -> things(x, 19));
        E.due("the 20th thing", x -> x.thing(0, 0, 0), 19);
        E.house(x -> things(x, 20));
        E.refused("the 21st thing", x -> x.thing(0, 0, 0), -4);
        E.refused("kind -1: BAD ahead of FULL", x -> x.thing(-1, 0, 0), -2);
        E.refused("kind 6: BAD ahead of FULL", x -> x.thing(6, 0, 0), -2);
        E.refused("row -1: BAD ahead of FULL", x -> x.thing(0, -1, 0), -2);
        E.refused("row 3: BAD ahead of FULL", x -> x.thing(0, 3, 0), -2);
        E.refused("number -1: BAD ahead of FULL", x -> x.thing(0, 0, -1), -2);
        E.refused("number 100: BAD ahead of FULL", x -> x.thing(0, 0, 100), -2);
    }

    /** "Of a THING: 0 KIND, .. 5 STILL now. BAD." */
    private static void thingTold() {
        E.house(Edges::some);
        E.range("thingTold of a thing", 0, 1, (x, n) -> x.thingTold(n, 0), -2);
        E.range("thingTold of a what", 0, 5, (x, n) -> x.thingTold(0, n), -2);
        E.refused("neither thing nor what", x -> x.thingTold(2, 6), -2);
        int[] due = {1, 0, 5, 10, 255, 76};
        for (int what = 0; what < due.length; what++) {
            int asked = what;
            E.due("thingTold(0, " + what + ")", x -> x.thingTold(0, asked), due[what]);
        }
        E.house(Edges::full);
        E.range("thingTold of 20 things", 0, 19, (x, n) -> x.thingTold(n, 2), -2);
    }

    /** "the HOUR in which it was told": the first and the last there can be; STEPS "all at first". */
    private static void whenItWasTold() {
        E.house(x -> x.row(0, 0));
        E.due("told at hour 0", x -> x.thingTold(x.thing(0, 0, 0), 3), 0);
        E.due("all steps at first", x -> x.thingTold(x.thing(0, 0, 0), 4), 65535);
        E.due("still 100 without ages", x -> x.thingTold(x.thing(0, 0, 0), 5), 100);
        E.house(x -> {
            x.row(0, 0);
            for (int i = 0; i < 9; i++) {
                x.pass(1000);
            }
            x.pass(999);
        });
        E.due("told at hour 9999", x -> x.thingTold(x.thing(0, 0, 0), 3), 9999);
    }

    /** STILL "at (HOUR less that in which it was told)": at its first hour, and one behind. */
    private static void stillNow() {
        E.house(x -> {
            x.row(0, 0);
            x.pass(40);
            x.thing(0, 0, 0);
            x.age(0, 0, 100);
            x.age(0, 1, 60);
            x.age(0, 2, 0);
        });
        E.due("in the hour in which it was told", x -> x.thingTold(0, 5), 100);
        E.then("an hour later", x -> x.pass(1), x -> x.thingTold(0, 5), 60);
        E.then("two hours later", x -> x.pass(2), x -> x.thingTold(0, 5), 0);
    }

    private static void lights(LampHouse x, int n) {
        Edges.some(x);
        for (int i = 3; i < n; i++) {
            x.light(0);
        }
    }

    /** "A LIGHT as a ROW tells: its number. BAD". */
    private static void light() {
        E.house(Edges::some);
        E.range("light", 0, 2, (x, n) -> x.light(n), -2);
        E.due("the row's first number", x -> x.lightTold(x.light(0), 0), 100);
        E.due("the row's last number", x -> x.lightTold(x.light(0), 7), 800);
    }

    /** "LIGHTS (20 at most, numbered from 0)", told by each of the three calls; "BAD; FULL". */
    private static void mostLights() {
        E.house(x -> x.row(0, 0));
        E.due("the first light", x -> x.light(0), 0);
        for (int n = 18; n <= 19; n++) {
            int there = n;
            E.house(x -> lights(x, there));
            E.due("light " + n, x -> x.light(0), n);
            E.due("shine " + n, x -> x.shine(0, 0, 0), n);
            E.due("both " + n, x -> x.both(0, 0), n);
        }
        E.house(x -> lights(x, 20));
        E.refused("light 20", x -> x.light(0), -4);
        E.refused("shine 20", x -> x.shine(0, 0, 0), -4);
        E.refused("shine 20, aged", x -> x.shine(0, 0, 1), -4);
        E.refused("both 20", x -> x.both(0, 0), -4);
        E.refused("row -1: BAD ahead of FULL", x -> x.light(-1), -2);
        E.refused("row 3: BAD ahead of FULL", x -> x.light(3), -2);
        E.refused("light -1: BAD ahead of FULL", x -> x.shine(-1, 0, 0), -2);
        E.refused("light 20: BAD ahead of FULL", x -> x.shine(20, 0, 0), -2);
        E.refused("thing -1: BAD ahead of FULL", x -> x.shine(0, -1, 0), -2);
        E.refused("thing 2: BAD ahead of FULL", x -> x.shine(0, 2, 0), -2);
        E.refused("aged -1: BAD ahead of FULL", x -> x.shine(0, 0, -1), -2);
        E.refused("aged 2: BAD ahead of FULL", x -> x.shine(0, 0, 2), -2);
        E.refused("the one: BAD ahead of FULL", x -> x.both(20, 0), -2);
        E.refused("the other: BAD ahead of FULL", x -> x.both(0, 20), -2);
        E.refused("the other -1: BAD ahead of FULL", x -> x.both(0, -1), -2);
    }

    /** "one TURNED by a THING (aged 1: AGED; 0: not): its number. BAD". */
    private static void shine() {
        E.house(Edges::some);
        E.range("shine of a light", 0, 2, (x, n) -> x.shine(n, 0, 0), -2);
        E.range("shine by a thing", 0, 1, (x, n) -> x.shine(0, n, 0), -2);
        E.range("shine aged", 0, 1, (x, n) -> x.shine(0, 0, n), -2);
        E.refused("light, thing and aged", x -> x.shine(3, 2, 2), -2);
        // The lamp makes 640 + 800 of 800, and sends 76 of 100 still.
        E.due("aged 0", x -> x.lightTold(x.shine(0, 0, 0), 7), 1440);
        E.due("aged 1", x -> x.lightTold(x.shine(0, 0, 1), 7), 1440 * 76 / 100);
        E.then("the light stays", x -> x.shine(0, 0, 1), x -> x.lightTold(0, 7), 800);
    }

    /** AGED "times STILL .. by 100": 0, 1, 99 and 100 of 100, cut. */
    private static void agedByHundredths() {
        int[] parts = {0, 1, 50, 99, 100};
        int[] due = {0, 9, 499, 989, 999};
        for (int i = 0; i < parts.length; i++) {
            int part = parts[i];
            E.house(x -> {
                Edges.some(x);
                x.thing(2, 1, 0);
                x.age(2, 0, part);
                x.both(1, 2);
            });
            // 999 and 1 are 1000, of which the glass lets 999 pass.
            E.due("aged to " + part, x -> x.lightTold(x.shine(3, 2, 1), 0), due[i]);
            E.due("not aged to " + part, x -> x.lightTold(x.shine(3, 2, 0), 0), 999);
        }
    }

    /** "two together: its number. BAD". */
    private static void both() {
        E.house(Edges::some);
        E.range("both, the one", 0, 2, (x, n) -> x.both(n, 0), -2);
        E.range("both, the other", 0, 2, (x, n) -> x.both(0, n), -2);
        E.refused("neither", x -> x.both(3, 3), -2);
        E.due("a light with itself", x -> x.lightTold(x.both(1, 1), 7), 1998);
        E.due("the first and the last", x -> x.lightTold(x.both(0, 2), 0), 101);
    }

    /** "What a LIGHT has of a COLOUR. BAD." */
    private static void lightTold() {
        E.house(Edges::some);
        E.range("lightTold of a light", 0, 2, (x, n) -> x.lightTold(n, 0), -2);
        E.range("lightTold of a colour", 0, 7, (x, n) -> x.lightTold(0, n), -2);
        E.refused("neither light nor colour", x -> x.lightTold(3, 8), -2);
        E.house(Edges::full);
        E.range("lightTold of 20 lights", 0, 19, (x, n) -> x.lightTold(n, 0), -2);
    }

    /** What a thing of a kind makes of colour 1, the light having x there and the row r. */
    private static void turned(int kind, int number, int light, int r, int due) {
        E.house(h -> {
            Check.row(h, 0, light);
            Check.row(h, 0, r);
            h.light(0);
            h.thing(kind, 1, number);
        });
        E.due("kind " + kind + ", number " + number + ": " + light + " by " + r,
            h -> h.lightTold(h.shine(0, 0, 0), 1), due);
    }

    /** THING: "x times r by 1000"; "Quotients are cut"; LAMP: "and r more". */
    private static void thingAndLamp() {
        int[][] edges = {{0, 0}, {0, 999}, {999, 0}, {1, 999}, {999, 1}, {37, 27}, {100, 10}, {10, 100}, {143, 7},
            {999, 2}, {500, 4}, {667, 3}, {998, 999}, {999, 999}};
        int[] due = {0, 0, 0, 0, 0, 0, 1, 1, 1, 1, 2, 2, 997, 998};
        for (int i = 0; i < edges.length; i++) {
            turned(0, 0, edges[i][0], edges[i][1], due[i]);
            turned(1, 0, edges[i][0], edges[i][1], due[i] + edges[i][1]);
            turned(3, 0, edges[i][0], edges[i][1], due[i] + edges[i][1]);
        }
        turned(0, 99, 999, 999, 998);
        turned(1, 99, 999, 999, 1997);
    }

    /** GLASS: "with 500 and half of r in place of r"; DEEP: "as a GLASS once more". */
    private static void glassAndDeep() {
        turned(2, 0, 999, 0, 499);
        turned(2, 0, 999, 1, 499);
        turned(2, 0, 999, 2, 500);
        turned(2, 0, 999, 3, 500);
        turned(2, 0, 999, 4, 501);
        turned(2, 0, 999, 997, 997);
        turned(2, 0, 999, 998, 998);
        turned(2, 0, 999, 999, 998);
        turned(2, 0, 1, 0, 0);
        turned(2, 0, 1, 999, 0);
        turned(2, 0, 2, 0, 1);
        turned(2, 0, 3, 0, 1);
        turned(2, 99, 3, 0, 1);
        // 998 by 999 once more is 997; 3, 4 and 5 by a half, twice.
        turned(5, 0, 999, 999, 997);
        turned(5, 99, 999, 998, 997);
        turned(5, 0, 3, 0, 0);
        turned(5, 0, 4, 0, 1);
        turned(5, 0, 5, 1, 1);
        turned(5, 0, 999, 2, 250);
    }

    /** WORN: "as a LAMP, but then times (100 less NUMBER) by 100". */
    private static void worn() {
        // A lamp of 999 makes 998 + 999 of 999.
        turned(3, 0, 999, 999, 1997);
        turned(3, 1, 999, 999, 1977);
        turned(3, 50, 999, 999, 998);
        turned(3, 98, 999, 999, 39);
        turned(3, 99, 999, 999, 19);
        turned(3, 99, 0, 99, 0);
        turned(3, 99, 0, 100, 1);
        turned(3, 99, 0, 101, 1);
    }

    /** GLOWING: "half of what COLOUR 0 of the LIGHT had (x there by 2) comes to COLOUR NUMBER modulo 8 more". */
    private static void glowing() {
        int[] numbers = {0, 1, 6, 7, 8, 9, 15, 16, 95, 96, 98, 99};
        for (int number : numbers) {
            for (int zero : new int[] {0, 1, 2, 3, 998, 999}) {
                E.house(h -> {
                    Check.row(h, zero, 400, 400, 400, 400, 400, 400, 400);
                    Check.row(h);
                    h.light(0);
                    h.thing(4, 1, number);
                });
                for (int c = 0; c < 8; c++) {
                    int colour = c;
                    int glow = number % 8 == c ? zero / 2 : 0;
                    E.due("glowing " + number + ": " + zero + ", colour " + c,
                        h -> h.lightTold(h.shine(0, 0, 0), colour), (c == 0 ? zero / 2 : 200) + glow);
                }
            }
        }
    }

    public static void main(String[] args) {
        thing();
        mostThings();
        thingTold();
        whenItWasTold();
        stillNow();
        light();
        mostLights();
        shine();
        agedByHundredths();
        both();
        lightTold();
        thingAndLamp();
        glassAndDeep();
        worn();
        glowing();
        E.end();
    }
}
