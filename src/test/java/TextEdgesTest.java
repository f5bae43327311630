/** The edges of promises 15 to 18: feed, text, force, like. */
public final class TextEdgesTest {
    private static final Edges E = new Edges("text edges");
    private static final String GOOD = "like 1;true 1;";

    private static void tape(LampHouse x, int n) {
        for (int i = 0; i < n; i++) {
            x.feed(1, ' ');
        }
    }

    /** "BAD: n is not 1 .. 8". */
    private static void bytesAtOnce() {
        E.house(Edges::some);
        E.range("feed", 1, 8, (x, n) -> x.feed(n, 0), -2);
        for (int n = 1; n <= 8; n++) {
            int bytes = n;
            E.due("feed(" + n + ")", x -> x.feed(bytes, -1), 4 + n);
        }
    }

    /** "The n lowest bytes of a number, the lowest first, come behind THE TAPE". */
    private static void lowestBytes() {
        for (int n = 1; n <= 8; n++) {
            int bytes = n;
            // A text of 14 bytes, n of them at once; above the n lowest there is what can't stand in a text.
            E.house(x -> {
                for (int at = 0; at < GOOD.length(); at += bytes) {
                    int some = Math.min(bytes, GOOD.length() - at);
                    long number = -1L;
                    for (int i = some - 1; i >= 0; i--) {
                        number = number << 8 | GOOD.charAt(at + i);
                    }
                    x.feed(some, number);
                }
            });
            E.due("a tape by " + n, x -> x.count(6), 14);
            E.due("a text by " + n, x -> x.text(), 1);
        }
        E.house(Edges::none);
        E.then("the byte above is left out", x -> x.feed(1, 0x2120), x -> x.text(), -101);
        E.then("the byte above is taken", x -> x.feed(2, 0x2120), x -> x.text(), -101);
        E.then("the byte above is taken as it is", x -> x.feed(2, 0x2020), x -> x.text(), -102);
        E.then("the lowest is first", x -> x.feed(2, 0x2021), x -> x.text(), -100);
        E.then("the highest byte is the eighth", x -> x.feed(8, 0xff20202020202020L), x -> x.text(), -107);
    }

    /** "THE TAPE (160 bytes at most)"; "FULL". */
    private static void mostBytes() {
        for (int n = 1; n <= 8; n++) {
            int bytes = n;
            E.house(x -> tape(x, 159 - bytes));
            E.due("feed(" + n + ") to 159", x -> x.feed(bytes, 0), 159);
            E.house(x -> tape(x, 160 - bytes));
            E.due("feed(" + n + ") to 160", x -> x.feed(bytes, 0), 160);
            E.house(x -> tape(x, 161 - bytes));
            E.refused("feed(" + n + ") to 161", x -> x.feed(bytes, 0), -4);
            E.house(x -> tape(x, 160));
            E.refused("feed(" + n + ") to more than 160", x -> x.feed(bytes, 0), -4);
        }
        for (int n : new int[] {Edges.LEAST, -1, 0, 9, Edges.MOST}) {
            E.house(x -> tape(x, 160));
            E.refused("feed(" + n + "): BAD ahead of FULL", x -> x.feed(n, 0), -2);
            E.house(x -> tape(x, 159));
            E.refused("feed(" + n + ") at 159: BAD ahead of FULL", x -> x.feed(n, 0), -2);
        }
    }

    private static String blanksAhead(int size) {
        return " ".repeat(size - GOOD.length()) + GOOD;
    }

    /** Texts of 159 and 160 bytes, to the last byte. */
    private static void longTexts() {
        E.house(Edges::none);
        for (int size : new int[] {14, 15, 159, 160}) {
            E.due("a text that ends at " + size, x -> Check.text(x, blanksAhead(size)), 1);
            E.due("without its last byte", x -> Check.text(x, blanksAhead(size).substring(0, size - 1)), -99 - size);
            E.due("its last byte can't stand",
                x -> Check.text(x, blanksAhead(size).substring(0, size - 1) + "!"), -99 - size);
        }
        E.due("160 blanks", x -> Check.text(x, " ".repeat(160)), -260);
        E.due("160 digits", x -> Check.text(x, "1".repeat(160)), -100);
        E.due("160 letters", x -> Check.text(x, "a".repeat(160)), -100);
        // 73 terms more fill the tape.
        String sum = "like 1;true 1" + "+1".repeat(73) + ";";
        E.due("160 bytes, 147 of them a sum", x -> Check.text(x, sum), 1);
        E.house(x -> {
            Edges.some(x);
            x.text();
            x.force(Check.text(x, sum));
        });
        E.due("and what they tell", x -> x.trueOf(0, 0, 0, 0), 74);
    }

    /** "THE TAPE, which is empty then, is a TEXT": behind a text, and behind a FAULT. */
    private static void emptyThen() {
        E.house(x -> Check.feed(x, GOOD));
        E.due("a text", x -> x.text(), 1);
        E.then("behind a text", x -> x.text(), x -> x.count(6), 0);
        E.then("its end is no part of the next one", x -> x.text(), x -> x.text(), -100);
        E.house(x -> Check.feed(x, GOOD + ";"));
        E.due("a fault", x -> x.text(), -114);
        E.then("behind a fault", x -> x.text(), x -> x.count(6), 0);
        E.then("no text comes of a fault", x -> x.text(), x -> x.count(5), 1);
        E.then("the rule stays behind a fault", x -> x.text(), x -> x.count(7), 0);
        E.then("a feed behind a fault", x -> x.text(), x -> x.feed(3, 0), 3);
        E.house(Edges::none);
        E.due("an empty tape", x -> x.text(), -100);
    }

    private static void texts(LampHouse x, int n) {
        for (int i = 1; i < n; i++) {
            Check.text(x, "like " + i + ";true " + 10 * i + ";");
        }
    }

    /** "There are 6 TEXTS at most, TEXT 0 with them"; "FULL: no TEXT more has room (THE TAPE stays)". */
    private static void mostTexts() {
        for (int n = 1; n < 6; n++) {
            int there = n;
            E.house(x -> texts(x, there));
            E.due("text " + n, x -> Check.text(x, GOOD), n);
            E.then("texts then", x -> Check.text(x, GOOD), x -> x.count(5), n + 1);
        }
        for (String tape : new String[] {GOOD, "like", "!", "", " ".repeat(160)}) {
            E.house(x -> {
                texts(x, 6);
                Check.feed(x, tape);
            });
            E.refused("text 6 of " + tape.length() + " bytes", x -> x.text(), -4);
            E.then("the tape stays", x -> x.text(), x -> x.count(6), tape.length());
            E.then("six texts stay", x -> x.text(), x -> x.count(5), 6);
        }
    }

    /** "A TEXT is THE RULE: which was. BAD." */
    private static void force() {
        E.house(Edges::some);
        E.range("force", 0, 1, (x, n) -> x.force(n), -2);
        E.due("text 1 was", x -> x.force(0), 1);
        E.then("text 0 was then", x -> x.force(0), x -> x.force(0), 0);
        E.house(x -> texts(x, 5));
        E.range("force of 5", 0, 4, (x, n) -> x.force(n), -2);
        E.house(x -> texts(x, 6));
        E.range("force of 6", 0, 5, (x, n) -> x.force(n), -2);
        E.due("text 0 at first", x -> x.force(5), 0);
        E.then("text 5 was", x -> x.force(5), x -> x.force(4), 5);
        E.then("the rule is told", x -> x.force(5), x -> x.count(7), 5);
    }

    /** "like of two LIGHTS and an EYE. NO: none such." */
    private static void like() {
        E.house(Edges::some);
        E.range("like to an eye", 0, 1, (x, n) -> x.like(n, 0, 0), Edges.NO);
        E.range("like, the one", 0, 2, (x, n) -> x.like(0, n, 0), Edges.NO);
        E.range("like, the other", 0, 2, (x, n) -> x.like(0, 0, n), Edges.NO);
        E.refused("none of them", x -> x.like(2, 3, 3), Edges.NO);
        E.house(Edges::full);
        E.range("like to 8 eyes", 0, 7, (x, n) -> x.like(n, 19, 19), Edges.NO);
        E.range("like of 20 lights", 0, 19, (x, n) -> x.like(7, n, 19), Edges.NO);
    }

    public static void main(String[] args) {
        bytesAtOnce();
        lowestBytes();
        mostBytes();
        longTexts();
        emptyThen();
        mostTexts();
        force();
        like();
        E.end();
    }
}
