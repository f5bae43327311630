import java.util.List;
import java.util.function.Function;

/**
 * Asks each question on a house built anew, so that no house comes to its 512 calls, and holds a
 * house that refused a call against a twin that never heard it.
 */
final class Edges {
    interface Build {
        void on(LampHouse x);
    }

    interface Ask {
        long of(LampHouse x);
    }

    interface AskWith {
        long of(LampHouse x, int n);
    }

    static final long NO = -4611686018427387904L;
    static final int LEAST = Integer.MIN_VALUE;
    static final int MOST = Integer.MAX_VALUE;

    /** Each tells a part of what a house holds, in fewer than 300 calls; some change it, so each has a house. */
    private static final List<Function<LampHouse, String>> PROBES = List.of(
        Edges::countsAndRows, Edges::thingsAndAges, Edges::lightsAndEyes, Edges::platesAndFilters,
        Edges::texts, Edges::sheets);

    private final Check check;
    private Build build = Edges::none;

    Edges(String name) {
        check = new Check(name);
    }

    /** From here on each question is asked on a new house that is built so. */
    void house(Build build) {
        this.build = build;
    }

    private LampHouse built() {
        LampHouse x = new LampHouse();
        build.on(x);
        return x;
    }

    void due(String call, Ask ask, long want) {
        check.due(call, ask.of(built()), want);
    }

    /** What is told behind a call. */
    void then(String call, Ask made, Ask asked, long want) {
        LampHouse x = built();
        made.of(x);
        check.due(call, asked.of(x), want);
    }

    /** The refusal, and that the call changes nothing. */
    void refused(String call, Ask ask, long refusal) {
        due(call, ask, refusal);
        for (Function<LampHouse, String> probe : PROBES) {
            LampHouse x = built();
            ask.of(x);
            check.due(call + " changes nothing", probe.apply(x).equals(probe.apply(built())) ? 1 : 0, 1);
        }
    }

    /** A number at the ends of its range, with both neighbours of each: those inside are not refused. */
    void range(String call, int least, int most, AskWith ask, long refusal) {
        for (int n : new int[] {least, least + 1, most - 1, most}) {
            if (n >= least && n <= most) {
                check.due(call + " with " + n + " stands", ask.of(built(), n) >= 0 ? 1 : 0, 1);
            }
        }
        for (int n : new int[] {LEAST, least - 1, most + 1, MOST}) {
            refused(call + " with " + n, x -> ask.of(x, n), refusal);
        }
    }

    /** Bits of which only those below a size are of something: the last of these, and all bits above. */
    void bits(String call, int size, AskWith ask) {
        int last = 1 << size - 1;
        check.due(call + " with bit " + (size - 1) + " stands", ask.of(built(), last) >= 0 ? 1 : 0, 1);
        for (int bit = size; bit < 32; bit++) {
            int other = 1 << bit;
            refused(call + " with bit " + bit, x -> ask.of(x, other), LampHouse.BAD);
            refused(call + " with bit " + bit + " too", x -> ask.of(x, other | last), LampHouse.BAD);
        }
        refused(call + " with all bits", x -> ask.of(x, -1), LampHouse.BAD);
    }

    void end() {
        check.end();
    }

    static void none(LampHouse x) {
    }

    /** A little of everything: 3 rows, lights; 2 things, eyes, texts, plates; sheets of 8 bytes, 9 shorts, 10 ints. */
    static void some(LampHouse x) {
        x.row(400300200100L, 800700600500L);
        x.row(999999999999L, 999999999999L);
        x.row(1, 0);
        x.pass(10);
        x.thing(1, 0, 5);
        x.thing(4, 1, 13);
        for (int row = 0; row < 3; row++) {
            x.light(row);
        }
        x.eye(0, 1, -1);
        x.eye(2, 0, 1);
        Check.text(x, "like a*2+c;true kind+b;");
        x.force(1);
        Check.feed(x, "like");
        x.plate(0, 1);
        x.plate(1, 2);
        x.age(0, 0, 90);
        x.age(0, 20, 50);
        x.age(1, 5, 7);
        x.flicker(0, 255);
        x.filter(2, 3);
        for (int sort = 0; sort < 3; sort++) {
            x.sheet(sort, sort, 8 + sort);
            x.cell(sort, 3, 70 + sort);
            x.cell(sort, 7 + sort, 7);
        }
        x.pass(7);
    }

    /** As much of everything as there can be, at the last hour; 181 calls. */
    static void full(LampHouse x) {
        for (int i = 0; i < 30; i++) {
            x.row(i + 1000L * (i % 7) + 1000000L * (i % 3), 999 - i + 1000L * i);
        }
        for (int i = 0; i < 10; i++) {
            x.pass(i == 0 ? 999 : 1000);
        }
        for (int i = 0; i < 20; i++) {
            x.thing(i % 6, i, i);
        }
        for (int i = 0; i < 20; i++) {
            x.light(29 - i);
        }
        for (int i = 0; i < 8; i++) {
            x.eye(i, i + 1, i % 2 == 0 ? -1 : i + 2);
        }
        for (int i = 1; i < 6; i++) {
            Check.text(x, "like " + i + ";true " + i + ";");
        }
        for (int i = 0; i < 20; i++) {
            x.feed(8, 0x3b31206b696c2020L + i);
        }
        for (int i = 0; i < 10; i++) {
            x.plate(i, 2 * i);
        }
        for (int i = 0; i < 40; i++) {
            x.age(i % 20, 250 * i, 100 - i);
        }
        for (int i = 0; i < 4; i++) {
            x.filter(i, 3 * i);
            x.sheet(i, i % 3, 40);
        }
    }

    private static String countsAndRows(LampHouse x) {
        StringBuilder told = new StringBuilder();
        for (int what = 0; what <= 10; what++) {
            told.append(x.count(what)).append(' ');
        }
        for (int row = 0; row < x.count(1); row++) {
            for (int c = 0; c < 8; c++) {
                told.append(x.rowTold(row, c)).append(' ');
            }
        }
        return told.toString();
    }

    private static String thingsAndAges(LampHouse x) {
        StringBuilder told = new StringBuilder();
        int things = x.count(2);
        for (int thing = 0; thing < things; thing++) {
            for (int what = 0; what <= 5; what++) {
                told.append(x.thingTold(thing, what)).append(' ');
            }
            for (int hour : new int[] {0, 1, 5, 12, 20, 5000, 9999}) {
                told.append(x.still(thing, hour)).append(' ');
            }
        }
        return told.toString();
    }

    private static String lightsAndEyes(LampHouse x) {
        StringBuilder told = new StringBuilder();
        int lights = x.count(3);
        for (int light = 0; light < lights; light++) {
            for (int c = 0; c < 8; c++) {
                told.append(x.lightTold(light, c)).append(' ');
            }
        }
        for (int eye = 0; eye < 8; eye++) {
            for (int taker = 0; taker < 3; taker++) {
                told.append(x.seen(eye, taker, 0)).append(' ').append(x.seen(eye, taker, lights - 1)).append(' ');
            }
        }
        return told.toString();
    }

    private static String platesAndFilters(LampHouse x) {
        StringBuilder told = new StringBuilder();
        for (int eye = 0; eye < 8; eye++) {
            told.append(x.reads(eye)).append(' ').append(x.chart(3 << eye)).append(' ');
        }
        for (int c = 0; c < 8; c++) {
            told.append(x.hidden(0, c)).append(' ').append(x.hidden(1, c)).append(' ');
            told.append(x.hidden(2, c)).append(' ');
        }
        return told.toString();
    }

    private static String texts(LampHouse x) {
        StringBuilder told = new StringBuilder();
        told.append(x.text()).append(' ');
        for (int text = 0; text < 6; text++) {
            told.append(x.force(text)).append(' ').append(x.like(0, 0, 1)).append(' ');
            told.append(x.like(1, 1, 2)).append(' ').append(x.trueOf(0, 1, 0, 1)).append(' ');
        }
        return told.append(x.count(6)).toString();
    }

    /** A missing sheet is of each sort; a row tells 8 items, where one more has room. */
    private static String sheets(LampHouse x) {
        StringBuilder told = new StringBuilder();
        for (int sheet = 0; sheet < 4; sheet++) {
            int its = 0;
            for (int sort = 0; sort < 3; sort++) {
                int answer = x.rowOf(sheet, sort, 99);
                its = answer == -12 ? sort : its;
                told.append(answer).append(' ');
            }
            int size = 0;
            while (size < 40 && x.copy(sheet, size + 1, sheet, 0, 0) == 0) {
                size++;
            }
            told.append(size).append(": ");
            for (int from = 0; from < size; from += 8) {
                int row = x.rowOf(sheet, its, Math.min(from, Math.max(size - 8, 0)));
                told.append(row).append(' ');
                for (int c = 0; c < 8; c++) {
                    told.append(row < 0 ? row : x.rowTold(row, c)).append(' ');
                }
            }
        }
        return told.toString();
    }
}
