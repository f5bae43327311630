/** Promises 26 to 31: ages, still, flicker, film, stripes, quietest. */
public final class AgesTest {
    private static final Check CHECK = new Check("ages");

    private static LampHouse house(int things) {
        LampHouse x = new LampHouse();
        Check.row(x, 1);
        for (int i = 0; i < things; i++) {
            x.thing(0, 0, 0);
        }
        return x;
    }

    private static void age() {
        LampHouse x = house(2);
        for (int i = 1; i <= 40; i++) {
            CHECK.due("age " + i, x.age(i % 2, 9999 - i % 3, i), i);
        }
        CHECK.due("count(9)", x.count(9), 40);
        CHECK.due("the last of like hours", x.still(0, 9999), 36);
        CHECK.due("the last of like hours", x.still(1, 9999), 39);
        CHECK.due("the last of like hours", x.still(0, 9997), 38);
    }

    private static void still() {
        LampHouse x = house(2);
        CHECK.due("without any", x.still(0, 0), 100);
        x.age(0, 20, 50);
        CHECK.due("ahead of the one", x.still(0, 0), 50);
        CHECK.due("behind the one", x.still(0, 9999), 50);
        x.age(0, 10, 61);
        x.age(0, 27, 60);
        CHECK.due("ahead of the first", x.still(0, 9), 61);
        CHECK.due("at the first", x.still(0, 10), 61);
        // -11 * 1 by 10 is -1, cut.
        CHECK.due("down by a cut", x.still(0, 11), 60);
        CHECK.due("down by a cut", x.still(0, 15), 56);
        CHECK.due("down by a cut", x.still(0, 19), 52);
        CHECK.due("at the second", x.still(0, 20), 50);
        CHECK.due("up by a cut", x.still(0, 21), 51);
        CHECK.due("up by a cut", x.still(0, 26), 58);
        CHECK.due("at the last", x.still(0, 27), 60);
        CHECK.due("behind the last", x.still(0, 28), 60);
        x.age(0, 20, 0);
        CHECK.due("told once more", x.still(0, 20), 0);
        CHECK.due("told once more, ahead", x.still(0, 15), 31);
        CHECK.due("told once more, behind", x.still(0, 26), 51);
        CHECK.due("the other thing", x.still(1, 20), 100);
    }

    private static void flicker() {
        LampHouse x = house(2);
        CHECK.due("all at first", x.flicker(0, 0), 65535);
        CHECK.due("none", x.flicker(0, 65535), 0);
        CHECK.due("all", x.flicker(0, 5), 65535);
        CHECK.due("the other thing", x.thingTold(1, 4), 65535);
    }

    private static void film() {
        LampHouse x = house(1);
        x.flicker(0, 0x8001);
        CHECK.due("step 0", x.film(0, 0, 1, 15), 1);
        CHECK.due("row 0", x.film(0, 15, 1, 0), 1);
        CHECK.due("step 15", x.film(0, 15, 1, 1), 1);
        CHECK.due("steps 15 and 0", x.film(0, 15, 2, 1), 2);
        CHECK.due("all steps", x.film(0, 7, 16, 3), 2);
        CHECK.due("steps 1 .. 14", x.film(0, 1, 14, 1), 0);
        CHECK.due("15 times 15 is step 1", x.film(0, 15, 1, 15), 0);
        CHECK.due("13 times 5 is step 1", x.film(0, 5, 1, 13), 0);
        CHECK.due("13 times 5 and 15 more", x.film(0, 5, 16, 13), 2);
    }

    private static void stripes() {
        LampHouse x = house(1);
        CHECK.due("all on", x.stripes(0, 16, 3, 5), 0);
        x.flicker(0, 0x00f7);
        CHECK.due("rows 3 and 4", x.stripes(0, 2, 4, 4), 1);
        CHECK.due("rows 3, 4 and 0", x.stripes(0, 3, 4, 4), 4);
        CHECK.due("one row", x.stripes(0, 1, 4, 4), 0);
        CHECK.due("rows of one step", x.stripes(0, 16, 1, 1), 1);
        CHECK.due("rows of all steps", x.stripes(0, 16, 5, 16), 0);
        CHECK.due("rows of one place", x.stripes(0, 16, 0, 3), 0);
        x.flicker(0, 0);
        CHECK.due("never on", x.stripes(0, 16, 1, 3), 0);
    }

    private static void quietest() {
        LampHouse x = house(4);
        x.flicker(0, 0x00ff);
        x.flicker(1, 0x5555);
        x.flicker(2, 0x0fff);
        x.flicker(3, 0x5555);
        CHECK.due("of all", x.quietest(15, 4, 4, 4), 1);
        CHECK.due("of like ones", x.quietest(10, 4, 4, 4), 1);
        CHECK.due("of the first and third", x.quietest(5, 4, 4, 4), 0);
        CHECK.due("rows 0 .. 2 are alike for the third", x.quietest(5, 3, 4, 4), 2);
        CHECK.due("the last alone", x.quietest(8, 4, 1, 1), 3);
    }

    public static void main(String[] args) {
        age();
        still();
        flicker();
        film();
        stripes();
        quietest();
        CHECK.end();
    }
}
