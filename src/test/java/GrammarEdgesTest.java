import java.util.List;

/** The edges of what "Terms" says of a TEXT: tokens, words, numbers, faults, and what is open. */
public final class GrammarEdgesTest {
    private static final Edges E = new Edges("grammar edges");
    private static final int STANDS = -1;
    private static final String BLANKS = " \n";
    private static final String JOINTS = "+-*<=";

    private static void place(String text, int due) {
        E.due(text, x -> Check.text(x, text), due == STANDS ? 1 : -100 - due);
    }

    private static boolean isLetter(int b) {
        return b >= 97 && b <= 122;
    }

    private static boolean isDigit(int b) {
        return b >= 48 && b <= 57;
    }

    /** "WORDS (a .. z), NUMBERS (digits), SIGNS ( ) ; + - * < = ; blanks (32, 10)": each byte there is, behind a NUMBER. */
    private static void byteBehindNumber(int b) {
        boolean stands = isDigit(b) || BLANKS.indexOf(b) >= 0;
        int due = stands ? STANDS : b == ';' || JOINTS.indexOf(b) >= 0 ? 7 : 6;
        place("like 1" + (char) b + ";true 1;", due);
        place("like 2;true 1" + (char) b + ";", stands ? STANDS : b == ';' || JOINTS.indexOf(b) >= 0 ? 14 : 13);
    }

    /** A letter more makes another WORD, which begins where the WORD begins. */
    private static void byteBehindName(int b) {
        int due = BLANKS.indexOf(b) >= 0 ? STANDS : isLetter(b) ? 5 : b == ';' || JOINTS.indexOf(b) >= 0 ? 7 : 6;
        place("like a" + (char) b + ";true 1;", due);
    }

    private static void byteAheadOfNumber(int b) {
        boolean stands = isDigit(b) || BLANKS.indexOf(b) >= 0 || b == '-';
        place("like " + (char) b + "1;true 1;", stands ? STANDS : b == '(' ? 7 : b >= 'a' && b <= 'c' ? 6 : 5);
    }

    private static void byteOutside(int b) {
        boolean isBlank = BLANKS.indexOf(b) >= 0;
        place((char) b + "like 1;true 1;", isBlank ? STANDS : 0);
        place("like 1;true 1;" + (char) b, isBlank ? STANDS : 14);
        place("like 1;" + (char) b + "true 1;", isBlank ? STANDS : 7);
        place("like 1;true" + (char) b + "1;", isBlank || b == '-' ? STANDS : isLetter(b) ? 7 : b == '(' ? 13
            : isDigit(b) ? STANDS : 11);
    }

    private static void allBytes() {
        E.house(Edges::none);
        for (int b = 0; b < 256; b++) {
            byteBehindNumber(b);
            byteBehindName(b);
            byteAheadOfNumber(b);
            byteOutside(b);
        }
    }

    /** "NAMES are a b c sum kind hour": these, a letter less, a letter more, any one letter. */
    private static void names() {
        for (String name : List.of("a", "b", "c", "sum", "kind", "hour")) {
            place("like " + name + ";true 1;", STANDS);
            place("like 1;true " + name + ";", STANDS);
            place("like(" + name + ");true(" + name + ");", STANDS);
            place("like " + name.substring(0, name.length() - 1) + ";true 1;", 5);
            for (char more = 'a'; more <= 'z'; more++) {
                place("like " + name + more + ";true 1;", 5);
                place("like " + more + name + ";true 1;", 5);
            }
            place("like " + name.toUpperCase() + ";true 1;", 5);
            place(name + " 1;true 1;", 0);
            place("like 1;" + name + " 1;", 7);
            place("like 1 " + name + ";true 1;", 7);
        }
        for (char letter = 'a'; letter <= 'z'; letter++) {
            place("like " + letter + ";true 1;", letter <= 'c' ? STANDS : 5);
        }
    }

    /** "like, true, or, and, not are KEYS": a letter less, a letter more, and where each can't stand. */
    private static void keys() {
        for (char more = 'a'; more <= 'z'; more++) {
            place("like" + more + " 1;true 1;", 0);
            place(more + "like 1;true 1;", 0);
            place("like 1;true" + more + " 1;", 7);
            place("like 1 or" + more + " 1;true 1;", 7);
            place("like 1 and" + more + " 1;true 1;", 7);
            place("like not" + more + " 1;true 1;", 5);
        }
        place("lik 1;true 1;", 0);
        place("like 1;tru 1;", 7);
        place("like 1 o 1;true 1;", 7);
        place("like 1 an 1;true 1;", 7);
        place("like no 1;true 1;", 5);
        for (String key : List.of("like", "true", "or", "and")) {
            place("like " + key + ";true 1;", 5);
            place("like 1+" + key + ";true 1;", 7);
            place("like not " + key + ";true 1;", 9);
            place("like 1;true " + key + ";", 12);
        }
        for (String key : List.of("like", "true", "not")) {
            place("like 1 " + key + " 1;true 1;", 7);
        }
        for (String joint : List.of("+", "-", "*", "<", "=")) {
            place("like 1" + joint + "not 1;true 1;", 7);
        }
        place("like -not 1;true 1;", 6);
        place("true 1;like 1;", 0);
        place("like 1;like 1;", 7);
        place("true 1;true 1;", 0);
    }

    /** "NUMBERS (digits, 4 at most)"; "a NUMBER that is too long"; "each as long as can be". */
    private static void numbers() {
        for (String digit : List.of("0", "1", "9")) {
            for (int n = 1; n <= 12; n++) {
                String number = digit.repeat(n);
                place("like " + number + ";true 1;", n <= 4 ? STANDS : 5);
                place("like 1;true " + number + ";", n <= 4 ? STANDS : 12);
                place("like a+" + number + ";true 1;", n <= 4 ? STANDS : 7);
                place("like a " + number + ";true 1;", 7);
            }
        }
        place("like 1234 5;true 1;", 10);
        place("like 1 2;true 1;", 7);
        place("like1;true2;", STANDS);
        place("like 1or 2and 3;true 1;", STANDS);
        place("like 1or2;true 1;", STANDS);
        place("like aor b;true 1;", 5);
        place("like a orb;true 1;", 7);
        place("like notnot 1;true 1;", 5);
    }

    /** "the text's size, if it ends too early": each piece of a text from its start on. */
    private static void endsTooEarly() {
        String whole = "like not (a < 1) or -b * c = 23;\ntrue sum - kind + hour and 7 ; ";
        place(whole, STANDS);
        place(whole.substring(0, whole.length() - 1), STANDS);
        for (int size = 0; size < whole.length() - 2; size++) {
            boolean cutsWord = size > 0 && isLetter(whole.charAt(size - 1)) && isLetter(whole.charAt(size));
            int start = size;
            while (cutsWord && start > 0 && isLetter(whole.charAt(start - 1))) {
                start--;
            }
            place(whole.substring(0, size), start);
        }
        place("like 1;true 1", 13);
        place("like 1;true 1 ", 14);
        place("like 1;true 1 \n ", 16);
    }

    /** "the first TOKEN that can't stand there": of two faults the one that comes first. */
    private static void theFirstFault() {
        place("like ! 12345;true 1;", 5);
        place("like 12345 !;true 1;", 5);
        place("like x y;true 1;", 5);
        place("like 1 x ( ;true 1;", 7);
        place("like ();true !;", 6);
        place("like (1;true 1);", 7);
        place("like 1);true 1;", 6);
        place("like (1));true 1;", 8);
        place("like 1;true 1; like 1;true 1;", 15);
        place("like 1 < 2 < 3;true 1;", 11);
        place("like 1 < 2 = 3;true 1;", 11);
        place("like 1 = 2 < 3;true 1;", 11);
        place("like (1 < 2) = 3;true 1;", STANDS);
        place("like 1 = (2 < 3);true 1;", STANDS);
        place("like 1 < 2 and 3 = 4 or 5 < 6;true 1;", STANDS);
        place("like not 1 < 2 < 3;true 1;", 15);
        for (String joint : List.of("+", "*", "<", "=")) {
            place("like 1" + joint + joint + "1;true 1;", 7);
            place("like " + joint + "1;true 1;", 5);
        }
        for (String joint : List.of(" + ", " - ", " * ", " < ", " = ", " or ", " and ")) {
            int behind = 6 + joint.length();
            place("like 1" + joint + ";true 1;", behind);
            place("like 1" + joint + ")" + ";true 1;", behind);
            place("like (1" + joint + ");true 1;", behind + 1);
            place("like 1;true 1" + joint + ";", behind + 7);
            place("like 1" + joint, behind);
        }
        for (String opener : OPENERS) {
            place("like " + opener + ";true 1;", 5 + opener.length());
            place("like " + opener + ");true 1;", 5 + opener.length());
        }
        place("like 1--1;true 1;", STANDS);
        place("like 1+-1;true 1;", STANDS);
        place("like 1-+1;true 1;", 7);
    }

    private static final String[] OPENERS = {"( ", "not ", "- "};

    /** A ( , not and - in each order, n of them, around a 1: the sixth that is open can't stand. */
    private static void openers(int n, int which) {
        StringBuilder text = new StringBuilder("like ");
        int due = STANDS;
        int closes = 0;
        int before = -1;
        for (int i = 0, rest = which; i < n; i++, rest /= 3) {
            boolean isNotBehindMinus = rest % 3 == 1 && before == 2;
            if (due == STANDS && (i >= 5 || isNotBehindMinus)) {
                due = text.length();
            }
            before = rest % 3;
            text.append(OPENERS[before]);
            closes += before == 0 ? 1 : 0;
        }
        place(text + "1" + ")".repeat(closes) + ";true 1;", due);
        place("like 1;true " + text.substring(5) + "1" + ")".repeat(closes) + ";", due == STANDS ? due : due + 7);
    }

    /** "a ( , a not, a - ahead of a ONE while 5 of these are open". */
    private static void open() {
        int all = 1;
        for (int n = 0; n <= 7; n++) {
            for (int which = 0; which < all; which++) {
                openers(n, which);
            }
            all *= 3;
        }
    }

    /** "(a ( till its ) , not and - till what they belong to ends)". */
    private static void openTill() {
        place("like (((((1)))))+(((((1)))));true 1;", STANDS);
        place("like ((((1)+(1)+(1))));true 1;", STANDS);
        place("like (((((1))+((1)))));true 1;", STANDS);
        place("like (((((1))+((1+(1))))));true 1;", 18);
        place("like (((((1)+1)+((1)))));true 1;", STANDS);
        place("like (((((1+(1))))));true 1;", 12);
        place("like not 1 < ((((2))));true 1;", STANDS);
        place("like not 1 < (((((2)))));true 1;", 17);
        place("like not 1 + ----2;true 1;", STANDS);
        place("like not 1 + -----2;true 1;", 17);
        place("like not 1 and (((((2)))));true 1;", STANDS);
        place("like not 1 or (((((2)))));true 1;", STANDS);
        place("like not 1 and ((((((2))))));true 1;", 20);
        place("like (not 1) < (((((2)))));true 1;", STANDS);
        place("like (not 1 and ((((2)))));true 1;", STANDS);
        place("like (not 1 < ((((2)))));true 1;", 17);
        place("like not not not not not 1 and not not not not not 1;true 1;", STANDS);
        place("like not not not not not 1 and not not not not not not 1;true 1;", 51);
        place("like -1 * -----1;true 1;", STANDS);
        place("like -1 * ------1;true 1;", 15);
        place("like -----1 - -----1 < -----1;true 1;", STANDS);
        place("like -(1) * (((((2)))));true 1;", STANDS);
        place("like -(((-1)) * --1);true 1;", STANDS);
        place("like -(((-1)) * ---1);true 1;", STANDS);
        place("like -(((-1)) * ----1);true 1;", 19);
    }

    /** A - behind a ONE is none ahead of a ONE, and is not open. */
    private static void minusBetween() {
        place("like 1-----1;true 1;", STANDS);
        place("like 1------1;true 1;", STANDS);
        place("like 1-------1;true 1;", 12);
        place("like (((((1-1)))));true 1;", STANDS);
        place("like (((((1--1)))));true 1;", 12);
        place("like (((((1-1-1-1-1-1-1)))));true 1;", STANDS);
    }

    public static void main(String[] args) {
        E.house(Edges::none);
        allBytes();
        names();
        keys();
        numbers();
        endsTooEarly();
        theFirstFault();
        open();
        openTill();
        minusBetween();
        E.end();
    }
}
