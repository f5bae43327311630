/** Counts answers that are not as due, and what many tests do to a LampHouse. */
final class Check {
    private final String name;
    private int asked = 0;
    private int wrong = 0;

    Check(String name) {
        this.name = name;
    }

    void due(String call, long got, long want) {
        asked++;
        if (got != want) {
            wrong++;
            System.out.println(name + ": " + call + " answered " + got + ", due is " + want);
        }
    }

    void end() {
        System.out.println(name + ": " + asked + " asked, " + wrong + " wrong");
        if (wrong != 0 || asked == 0) {
            System.exit(1);
        }
    }

    /** A ROW by its 8 numbers, colour 0 first. */
    static int row(LampHouse x, int... n) {
        return x.row(digits(n, 0), digits(n, 4));
    }

    private static long digits(int[] n, int from) {
        long number = 0;
        for (int i = 3; i >= 0; i--) {
            number = number * 1000 + (from + i < n.length ? n[from + i] : 0);
        }
        return number;
    }

    /** Feeds a text in pieces of 8 bytes and fewer. */
    static void feed(LampHouse x, String text) {
        for (int at = 0; at < text.length(); at += 8) {
            int n = Math.min(8, text.length() - at);
            long bytes = 0;
            for (int i = n - 1; i >= 0; i--) {
                bytes = bytes << 8 | text.charAt(at + i) & 255;
            }
            x.feed(n, bytes);
        }
    }

    static int text(LampHouse x, String text) {
        feed(x, text);
        return x.text();
    }
}
