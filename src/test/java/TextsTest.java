/** Promises 15 to 18: the tape, texts, the rule, like. */
public final class TextsTest {
    private static final Check CHECK = new Check("texts");

    private static void feed() {
        LampHouse x = new LampHouse();
        CHECK.due("feed(1)", x.feed(1, -1L), 1);
        for (int i = 1; i <= 19; i++) {
            CHECK.due("feed(8)", x.feed(8, -1L), 8 * i + 1);
        }
        CHECK.due("feed(7) to 160", x.feed(7, 0), 160);
        CHECK.due("text of byte 255", x.text(), -100);
        CHECK.due("the tape is empty then", x.count(6), 0);
        // The lowest byte comes first, and what lies above the n lowest does not matter.
        x.feed(4, 0x77777777656b696cL);
        x.feed(8, 0x757274203b312020L);
        x.feed(4, 0xffffffff3b312065L);
        CHECK.due("a text in pieces", x.text(), 1);
    }

    private static int fault(String text) {
        return Check.text(new LampHouse(), text);
    }

    private static void stands(String text) {
        CHECK.due("text: " + text, fault(text), 1);
    }

    private static void faults(int place, String text) {
        CHECK.due("text: " + text, fault(text), -100 - place);
    }

    private static void goodTexts() {
        stands("like sum ; true a + b + c ;");
        stands("like a;true b;");
        stands("  \nlike a\n;true\nb ; \n ");
        stands("like5;true 0000;");
        stands("like not a<b and c=kind or hour*2-1;true(1);");
        stands("like 1<2 and not not 3=4;true 1;");
        stands("like - - - - - 1;true 1;");
        stands("like not not not not not 1;true 1;");
        stands("like(((((1)))));true(((((1)))))+(1);");
        stands("like not (not (- 1));true 1;");
        stands("like -----1 - -----1 * -----1;true 1;");
        stands("like not ----1 and -----1;true 1;");
        stands("like not not not not not 1 < 2 or not not not not not 1;true 1;");
        stands("like (not 1) + (((((2)))));true 1;");
        stands("like(1);true 9999;");
    }

    private static void faultyTexts() {
        faults(0, "");
        faults(3, "   ");
        faults(0, "true a;like a;");
        faults(0, "likes a;true a;");
        faults(0, "Like a;true a;");
        faults(5, "like ;true a;");
        faults(4, "like;true a;");
        faults(5, "like like;true a;");
        faults(5, "like x;true a;");
        faults(5, "like ab;true a;");
        faults(5, "like 12345;true a;");
        faults(5, "like 00001;true a;");
        faults(7, "like 1 2;true a;");
        faults(6, "like 1a;true a;");
        faults(6, "like a1;true a;");
        faults(6, "like 1");
        faults(8, "like 1  ");
        faults(7, "like 1;");
        faults(7, "like 1;like 1;");
        faults(13, "like 1;true 1");
        faults(14, "like 1;true 1;;");
        faults(15, "like 1;true 1; a");
        faults(14, "like 1;true 1;#");
        faults(6, "like 1\t;true 1;");
        faults(6, "like 1\0;true 1;");
        faults(9, "like 1 + + 1;true 1;");
        faults(9, "like 1 < not 2;true 1;");
        faults(9, "like 1 + not 2;true 1;");
        faults(7, "like - not 2;true 1;");
        faults(11, "like 1 < 2 < 3;true 1;");
        faults(11, "like 1 = 2 = 3;true 1;");
        faults(7, "like (1;true 1;");
        faults(6, "like 1);true 1;");
        faults(6, "like ();true 1;");
        faults(10, "like 1 or or 1;true 1;");
        faults(9, "like 1 or;true 1;");
        faults(8, "like 1 <;true 1;");
        faults(8, "like 1 +;true 1;");
        faults(8, "like 1 *;true 1;");
        faults(5, "like az;true 1;");
        faults(5, "like za;true 1;");
        faults(5, "like and 1;true 1;");
        faults(10, "like 1 and;true 1;");
        faults(8, "like not;true 1;");
        faults(7, "like a not b;true 1;");
        faults(7, "like 1 true 1;");
    }

    /** What a tape held before is no part of the next one. */
    private static void tapesBefore() {
        LampHouse x = new LampHouse();
        String[] before = {"like 12345;", "like 1        ;", "like 1abc;", "like 1;true 1;"};
        for (String text : before) {
            Check.text(x, text);
            CHECK.due("like 1, behind " + text, Check.text(x, "like 1"), -106);
        }
        Check.text(x, "like aaaa;");
        CHECK.due("like a, behind like aaaa;", Check.text(x, "like a"), -106);
        StringBuilder most = new StringBuilder("like 1;true 1;");
        while (most.length() < 160) {
            most.append(' ');
        }
        CHECK.due("a text of 160 bytes", Check.text(x, most.toString()), 2);
        String digits = "like 1;true 1" + "+1".repeat(73);
        CHECK.due("159 bytes and a ;", Check.text(x, digits + ";"), 3);
        x.force(3);
        CHECK.due("159 bytes and a digit", Check.text(x, digits + "1"), -100 - 160);
        CHECK.due("159 bytes and a blank", Check.text(x, digits + " "), -100 - 160);
        CHECK.due("159 bytes and a letter", Check.text(x, digits + "a"), -100 - 159);
    }

    private static final class House {
        final LampHouse x = new LampHouse();

        House() {
            Check.row(x, 1);
            Check.row(x, 0, 1);
            Check.row(x, 0, 0, 1);
            Check.row(x, 0, 0, 999);
            Check.row(x, 999, 999, 999);
            x.eye(0, 1, -1);
            x.eye(4, 4, 3);
            x.eye(0, 1, 2);
            x.light(0);
            x.light(4);
        }

        /** What an E tells of lights 0 and 1 to eye 1. */
        long value(String e) {
            x.force(Check.text(x, "like " + e + ";true 7;"));
            return x.like(1, 0, 1);
        }
    }

    private static void says(String e, long due) {
        CHECK.due(e, new House().value(e), due);
    }

    private static void values() {
        says("a", 2993);
        says("b", 2993);
        says("c", 998);
        says("sum", 2993 + 2993 + 998);
        says("kind", 3);
        says("hour", 0);
        says("2+3*4", 14);
        says("2*3+4", 10);
        says("9-3-2", 4);
        says("9-(3-2)", 8);
        says("2*-3", -6);
        says("-2*3-1", -7);
        says("--5", 5);
        says("9999*9999*9999", 9999 * 9999 * 9999);
        says("-(9999*9999*9999*9999)", -(9999 * 9999 * 9999 * 9999));
        says("5", 5);
        says("not 5", 0);
        says("not 0", 1);
        says("not not 5", 1);
        says("not 1 = 2", 1);
        says("not 0 + 1", 0);
        says("5 or 0", 1);
        says("0 or 0", 0);
        says("0 or -2", 1);
        says("5 and 7", 1);
        says("5 and 0", 0);
        says("0 and 5", 0);
        says("1 or 0 and 0", 1);
        says("(1 or 0) and 0", 0);
        says("0 and 0 or 1", 1);
        says("1 < 2", 1);
        says("2 < 2", 0);
        says("3 < 2", 0);
        says("-1 < 0", 1);
        says("2 = 2", 1);
        says("2 = 3", 0);
        says("1 + 1 = 2 and 3 < 2 + 2", 1);
        says("(1 < 2) + (2 < 3)", 2);
        says("0007", 7);
    }

    private static void textAndForce() {
        LampHouse x = new House().x;
        CHECK.due("force(0)", x.force(0), 0);
        CHECK.due("a fault", Check.text(x, "like 1;true ;"), -112);
        CHECK.due("the tape is empty", x.count(6), 0);
        CHECK.due("no text more", x.count(5), 1);
        for (int i = 1; i < 6; i++) {
            CHECK.due("text " + i, Check.text(x, "like " + i + ";true 10*" + i + ";"), i);
        }
        CHECK.due("the rule stays", x.count(7), 0);
        Check.feed(x, "like 1;true 1;");
        CHECK.due("the tape stays", x.count(6), 14);
        CHECK.due("force(5)", x.force(5), 0);
        CHECK.due("like by text 5", x.like(0, 0, 1), 5);
        CHECK.due("force(3)", x.force(3), 5);
        CHECK.due("like by text 3", x.like(0, 0, 1), 3);
        CHECK.due("count(7)", x.count(7), 3);
        CHECK.due("force(0)", x.force(0), 3);
        CHECK.due("like by text 0", x.like(1, 0, 1), 2993 + 2993 + 998);
    }

    private static void like() {
        LampHouse x = new House().x;
        // Eye 0 sees 998 and 999 unlike, which is nothing by 1000.
        CHECK.due("less than 1000", x.like(0, 0, 1), 0);
        CHECK.due("either way", x.like(1, 1, 0), 2993 + 2993 + 998);
        CHECK.due("a light with itself", x.like(1, 1, 1), 0);
        Check.text(x, "like 100*kind+c;true 1;");
        x.force(1);
        CHECK.due("two takers, c 0", x.like(0, 0, 1), 200);
        CHECK.due("three takers", x.like(1, 0, 1), 300 + 998);
        Check.text(x, "like hour*10;true 1;");
        x.force(2);
        x.pass(12);
        CHECK.due("hour", x.like(0, 0, 0), 120);
    }

    public static void main(String[] args) {
        feed();
        goodTexts();
        faultyTexts();
        tapesBefore();
        values();
        textAndForce();
        like();
        CHECK.end();
    }
}
