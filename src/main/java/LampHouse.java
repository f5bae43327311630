import java.util.Arrays;

/** Lamps and their colours, by the numbered promises of the document. */
public final class LampHouse {
    public static final int NONE = -1, BAD = -2, STATE = -3, FULL = -4;
    public static final long NO = -4611686018427387904L;

    private static final int NOTHING = -11, OUTSIDE = -12, OTHER_SORT = -13, BELOW_ZERO = -14;
    private static final int FAULT_BASE = -100;
    private static final int COLOURS = 8, MOST_ROWS = 30, LAST_NUMBER = 999, DIGIT = 1000;
    private static final long FOUR_DIGITS = 1000000000000L;
    private static final int MOST_LIGHTS = 20, MOST_OF_LIGHT = 1000000000, WHOLE = 100;
    private static final int LAST_HOUR = 9999, MOST_PASSED = 1000;
    private static final int STEPS = 16, ALL_STEPS = 65535;

    private final Eights rows = new Eights(MOST_ROWS);
    private final Ages ages = new Ages();
    private final Things things = new Things(rows, ages);
    private final Eights lights = new Eights(MOST_LIGHTS);
    private final Eyes eyes = new Eyes(rows);
    private final Reader reader = new Reader();
    private final Rules rules = new Rules(eyes);
    private final Nearest nearest = new Nearest(rules, things, lights);
    private final Plates plates = new Plates(eyes, lights);
    private final Filters filters = new Filters();
    private final Sheets sheets = new Sheets();
    private final int[] scratch = new int[COLOURS];
    private final int[] scratchToo = new int[COLOURS];
    private int hour = 0;

    public LampHouse() {
    }

    public int pass(int n) {
        if (n < 1 || n > MOST_PASSED) {
            return BAD;
        }
        if (hour + n > LAST_HOUR) {
            return FULL;
        }
        hour += n;
        return hour;
    }

    public int row(long first, long second) {
        if (!isFourDigits(first) || !isFourDigits(second)) {
            return BAD;
        }
        if (rows.isFull()) {
            return FULL;
        }
        putDigits(first, scratch, 0);
        putDigits(second, scratch, COLOURS / 2);
        return rows.add(scratch);
    }

    public int rowTold(int row, int colour) {
        return rows.has(row) && isColour(colour) ? rows.get(row)[colour] : BAD;
    }

    // ---- things, lights

    public int thing(int kind, int row, int number) {
        if (!Things.isKind(kind) || !rows.has(row) || number < 0 || number >= WHOLE) {
            return BAD;
        }
        if (things.isFull()) {
            return FULL;
        }
        return things.add(kind, row, number, hour);
    }

    public int thingTold(int thing, int what) {
        if (!things.has(thing)) {
            return BAD;
        }
        switch (what) {
            case 0: return things.kindOf(thing);
            case 1: return things.rowUsed(thing);
            case 2: return things.numberOf(thing);
            case 3: return things.hourTold(thing);
            case 4: return things.stepsOf(thing);
            case 5: return things.stillNow(thing, hour);
            default: return BAD;
        }
    }

    public int light(int row) {
        if (!rows.has(row)) {
            return BAD;
        }
        return lights.isFull() ? FULL : lights.add(rows.get(row));
    }

    public int shine(int light, int thing, int aged) {
        if (!lights.has(light) || !things.has(thing) || aged < 0 || aged > 1) {
            return BAD;
        }
        if (lights.isFull()) {
            return FULL;
        }
        things.turn(thing, lights.get(light), scratch);
        if (aged == 1) {
            things.wear(thing, hour, scratch);
        }
        return lights.add(scratch);
    }

    public int both(int a, int b) {
        if (!lights.has(a) || !lights.has(b)) {
            return BAD;
        }
        if (lights.isFull()) {
            return FULL;
        }
        join(lights.get(a), lights.get(b), scratch);
        return lights.add(scratch);
    }

    public int lightTold(int light, int colour) {
        return lights.has(light) && isColour(colour) ? lights.get(light)[colour] : BAD;
    }

    // ---- eyes

    public int eye(int first, int second, int third) {
        if (!rows.has(first) || !rows.has(second) || third != NONE && !rows.has(third)) {
            return BAD;
        }
        return eyes.isFull() ? FULL : eyes.add(first, second, third);
    }

    public long seen(int eye, int taker, int light) {
        if (!eyes.has(eye) || !eyes.hasTaker(eye, taker) || !lights.has(light)) {
            return NO;
        }
        return eyes.sight(eye, taker, lights.get(light));
    }

    public int same(int eye, int a, int b) {
        if (!eyes.has(eye) || !lights.has(a) || !lights.has(b)) {
            return BAD;
        }
        return eyes.isSame(eye, lights.get(a), lights.get(b)) ? 1 : 0;
    }

    public int twins(int one, int other, int i) {
        if (!eyes.has(one) || !eyes.has(other)) {
            return BAD;
        }
        int pairs = 0;
        for (int a = 0; a < lights.size(); a++) {
            for (int b = a + 1; b < lights.size(); b++) {
                if (eyes.isSame(one, lights.get(a), lights.get(b))
                        && !eyes.isSame(other, lights.get(a), lights.get(b))) {
                    if (pairs == i) {
                        return 100 * a + b;
                    }
                    pairs++;
                }
            }
        }
        return i == -1 ? pairs : NONE;
    }

    // ---- texts

    public int feed(int n, long bytes) {
        if (n < 1 || n > 8) {
            return BAD;
        }
        return reader.hasRoom(n) ? reader.append(n, bytes) : FULL;
    }

    public int text() {
        if (rules.isFull()) {
            return FULL;
        }
        int answer = reader.read() ? rules.add(reader) : FAULT_BASE - reader.place();
        reader.empty();
        return answer;
    }

    public int force(int text) {
        return rules.has(text) ? rules.choose(text) : BAD;
    }

    public long like(int eye, int a, int b) {
        if (!eyes.has(eye) || !lights.has(a) || !lights.has(b)) {
            return NO;
        }
        return rules.likeness(eye, lights.get(a), lights.get(b), hour);
    }

    // ---- mixed, true, layers

    public int mixed(int eye, int lights, int wished, int i) {
        int told = Integer.bitCount(lights);
        if (!eyes.has(eye) || !this.lights.hasAll(lights) || told < 1 || told > Nearest.MOST_MIXED
                || !this.lights.has(wished)) {
            return BAD;
        }
        if (i < -1 || i >= told) {
            return NONE;
        }
        nearest.wish(eye, this.lights.get(wished), hour);
        nearest.mix(lights);
        return i == -1 ? nearest.likeness() : nearest.part(i);
    }

    public long trueOf(int eye, int thing, int x, int y) {
        if (!eyes.has(eye) || !things.has(thing) || !lights.has(x) || !lights.has(y)) {
            return NO;
        }
        return trueness(eye, thing, x, y);
    }

    public int worst(int eye, int things, int x, int y) {
        if (!eyes.has(eye) || !this.things.hasSome(things) || !lights.has(x) || !lights.has(y)) {
            return BAD;
        }
        int found = NONE;
        int greatest = 0;
        for (int thing = 0; thing < this.things.size(); thing++) {
            if (isTold(things, thing)) {
                int value = trueness(eye, thing, x, y);
                if (found == NONE || value > greatest) {
                    found = thing;
                    greatest = value;
                }
            }
        }
        return found;
    }

    public int layers(int eye, int things, int light, int wished, int i) {
        if (!eyes.has(eye) || !lights.has(light) || !lights.has(wished)
                || !this.things.hasAll(things) || Integer.bitCount(things) > Nearest.MOST_LAYERS) {
            return BAD;
        }
        nearest.wish(eye, lights.get(wished), hour);
        nearest.lay(things, lights.get(light));
        if (i == -1) {
            return nearest.likeness();
        }
        if (i == -2) {
            return nearest.layerCount();
        }
        return i >= 0 && i < nearest.layerCount() ? nearest.layer(i) : NONE;
    }

    // ---- plates, ages, films

    public int plate(int a, int b) {
        if (!lights.has(a) || !lights.has(b)) {
            return BAD;
        }
        return plates.isFull() ? FULL : plates.add(a, b);
    }

    public int reads(int eye) {
        return eyes.has(eye) ? plates.readBy(eye) : BAD;
    }

    public int chart(int eyes) {
        return this.eyes.hasAll(eyes) ? plates.fewestFor(eyes) : BAD;
    }

    public int age(int thing, int hour, int hundredths) {
        if (!things.has(thing) || !isHour(hour) || hundredths < 0 || hundredths > WHOLE) {
            return BAD;
        }
        return ages.isFull() ? FULL : ages.add(thing, hour, hundredths);
    }

    public int still(int thing, int hour) {
        return things.has(thing) && isHour(hour) ? ages.stillAt(thing, hour) : BAD;
    }

    public int flicker(int thing, int steps) {
        if (!things.has(thing) || steps < 0 || steps > ALL_STEPS) {
            return BAD;
        }
        return things.changeSteps(thing, steps);
    }

    public int film(int thing, int s, int w, int i) {
        if (!things.has(thing) || !isFilm(1, s, w) || i < 0 || i >= STEPS) {
            return BAD;
        }
        return things.stepsOn(thing, i * s, w);
    }

    public int stripes(int thing, int n, int s, int w) {
        return things.has(thing) && isFilm(n, s, w) ? things.unevenness(thing, n, s, w) : BAD;
    }

    public int quietest(int things, int n, int s, int w) {
        if (!this.things.hasSome(things) || !isFilm(n, s, w)) {
            return BAD;
        }
        int found = NONE;
        int fewest = 0;
        for (int thing = 0; thing < this.things.size(); thing++) {
            if (isTold(things, thing)) {
                int value = this.things.unevenness(thing, n, s, w);
                if (found == NONE || value < fewest) {
                    found = thing;
                    fewest = value;
                }
            }
        }
        return found;
    }

    // ---- filters

    public int filter(int row, int reading) {
        if (!rows.has(row) || reading < 0 || reading > LAST_NUMBER) {
            return BAD;
        }
        return filters.isFull() ? FULL : filters.add(rows.get(row), reading);
    }

    public int hidden(int what, int colour) {
        if (what < 0 || what > 2 || what > 0 && !isColour(colour)) {
            return BAD;
        }
        int fits = filters.fitting();
        if (what == 0) {
            return fits;
        }
        if (fits == 0) {
            return NONE;
        }
        return what == 1 ? filters.leastOf(colour) : filters.mostOf(colour);
    }

    public int count(int what) {
        switch (what) {
            case 0: return hour;
            case 1: return rows.size();
            case 2: return things.size();
            case 3: return lights.size();
            case 4: return eyes.size();
            case 5: return rules.size();
            case 6: return reader.size();
            case 7: return rules.chosen();
            case 8: return plates.size();
            case 9: return ages.size();
            case 10: return filters.size();
            default: return BAD;
        }
    }

    // ---- the host

    public int sheet(int sheet, int sort, int n) {
        if (!Sheets.isPlace(sheet)) {
            return BAD;
        }
        if (sort == Sheets.MISSING) {
            return sheets.remove(sheet);
        }
        if (!Sheets.isSort(sort) || n > Sheets.MOST_ITEMS) {
            return BAD;
        }
        return n < 0 ? BELOW_ZERO : sheets.make(sheet, sort, n);
    }

    public int cell(int sheet, int i, int v) {
        if (!Sheets.isPlace(sheet)) {
            return BAD;
        }
        if (sheets.isMissing(sheet)) {
            return NOTHING;
        }
        return sheets.holds(sheet, i, 1) ? sheets.put(sheet, i, v) : OUTSIDE;
    }

    public int copy(int sheet, int i, int other, int j, int n) {
        if (!Sheets.isPlace(sheet) || !Sheets.isPlace(other)) {
            return BAD;
        }
        if (sheets.isMissing(sheet) || sheets.isMissing(other)) {
            return NOTHING;
        }
        if (sheets.sortOf(sheet) != sheets.sortOf(other)) {
            return OTHER_SORT;
        }
        if (!sheets.holds(sheet, i, n) || !sheets.holds(other, j, n)) {
            return OUTSIDE;
        }
        System.arraycopy(sheets.get(sheet), i, sheets.get(other), j, n);
        return n;
    }

    public int rowOf(int sheet, int sort, int from) {
        if (!Sheets.isPlace(sheet) || !Sheets.isSort(sort)) {
            return BAD;
        }
        // A missing SHEET is of no sort, so it is never of another one.
        if (!sheets.isMissing(sheet) && sheets.sortOf(sheet) != sort) {
            return OTHER_SORT;
        }
        if (sheets.isMissing(sheet)) {
            return NOTHING;
        }
        if (!sheets.holds(sheet, from, COLOURS)) {
            return OUTSIDE;
        }
        System.arraycopy(sheets.get(sheet), from, scratch, 0, COLOURS);
        if (!areNumbersOfRow(scratch)) {
            return STATE;
        }
        return rows.isFull() ? FULL : rows.add(scratch);
    }

    public int taken(int thing, int k) {
        if (!Things.isKind(k)) {
            return BAD;
        }
        if (!things.has(thing)) {
            return NOTHING;
        }
        return Things.isUnder(things.kindOf(thing), k) ? things.numberOf(thing) : OTHER_SORT;
    }

    private int trueness(int eye, int thing, int x, int y) {
        things.turn(thing, lights.get(x), scratch);
        things.turn(thing, lights.get(y), scratchToo);
        return rules.trueness(eye, scratch, scratchToo, things.kindOf(thing), hour);
    }

    private static boolean isFourDigits(long number) {
        return number >= 0 && number < FOUR_DIGITS;
    }

    private static void putDigits(long digits, int[] to, int from) {
        long rest = digits;
        for (int i = from; i < from + COLOURS / 2 && i < to.length; i++) {
            to[i] = (int) (rest % DIGIT);
            rest /= DIGIT;
        }
    }

    private static boolean areNumbersOfRow(int[] eight) {
        for (int number : eight) {
            if (number < 0 || number > LAST_NUMBER) {
                return false;
            }
        }
        return true;
    }

    private static int limited(long number) {
        return (int) Math.min(number, (long) MOST_OF_LIGHT);
    }

    private static void join(int[] a, int[] b, int[] to) {
        for (int c = 0; c < COLOURS; c++) {
            to[c] = limited((long) a[c] + b[c]);
        }
    }

    private static boolean isColour(int colour) {
        return colour >= 0 && colour < COLOURS;
    }

    private static boolean isHour(int hour) {
        return hour >= 0 && hour <= LAST_HOUR;
    }

    private static boolean isFilm(int n, int s, int w) {
        return n >= 1 && n <= STEPS && s >= 0 && s < STEPS && w >= 1 && w <= STEPS;
    }

    private static boolean isTold(int bits, int i) {
        return (bits >> i & 1) == 1;
    }

    /** Whether all bits are of the first ones; size stays far below 31. */
    private static boolean areBelow(int bits, int size) {
        return (bits & -1 << size) == 0;
    }

    /** ROWS, or LIGHTS: 8 numbers each; what is told never changes, so its array may be lent. */
    private static final class Eights {
        private final int[][] numbers;
        private int size = 0;

        Eights(int most) {
            numbers = new int[Math.max(most, 0)][COLOURS];
        }

        int size() {
            return size;
        }

        boolean has(int i) {
            return i >= 0 && i < size;
        }

        boolean hasAll(int bits) {
            return areBelow(bits, size);
        }

        boolean isFull() {
            return size >= numbers.length;
        }

        int[] get(int i) {
            return numbers[i];
        }

        int add(int[] eight) {
            System.arraycopy(eight, 0, numbers[size], 0, COLOURS);
            return size++;
        }
    }

    /** AGES of all THINGS, in the order in which they were told. */
    private static final class Ages {
        private static final int MOST = 40;

        private final int[] things = new int[MOST];
        private final int[] hours = new int[MOST];
        private final int[] hundredths = new int[MOST];
        private int size = 0;

        int size() {
            return size;
        }

        boolean isFull() {
            return size >= MOST;
        }

        int add(int thing, int hour, int hundredth) {
            things[size] = thing;
            hours[size] = hour;
            hundredths[size] = hundredth;
            size++;
            return size;
        }

        int stillAt(int thing, int hour) {
            int before = NONE;
            int behind = NONE;
            // Of like HOURS the one told last counts, so a like one replaces.
            for (int i = 0; i < size; i++) {
                if (things[i] == thing && hours[i] <= hour) {
                    before = before == NONE || hours[i] >= hours[before] ? i : before;
                } else if (things[i] == thing) {
                    behind = behind == NONE || hours[i] <= hours[behind] ? i : behind;
                }
            }
            if (before == NONE) {
                return behind == NONE ? WHOLE : hundredths[behind];
            }
            return behind == NONE ? hundredths[before] : between(before, behind, hour);
        }

        private int between(int before, int behind, int hour) {
            int span = hours[behind] - hours[before];
            if (span <= 0) {
                return hundredths[before];
            }
            int change = hundredths[behind] - hundredths[before];
            return hundredths[before] + change * (hour - hours[before]) / span;
        }
    }

    private static final class Things {
        private static final int MOST = 20;
        private static final int LAMP = 1, GLASS = 2, WORN = 3, GLOWING = 4, DEEP = 5;
        /** For each KIND the one that it is under. */
        private static final int[] ABOVE = {NONE, 0, 0, LAMP, GLASS, GLASS};

        private final Eights rows;
        private final Ages ages;
        private final int[] kinds = new int[MOST];
        private final int[] rowNumbers = new int[MOST];
        private final int[] numbers = new int[MOST];
        private final int[] hours = new int[MOST];
        private final int[] steps = new int[MOST];
        private int size = 0;

        Things(Eights rows, Ages ages) {
            this.rows = rows;
            this.ages = ages;
        }

        static boolean isKind(int kind) {
            return kind >= 0 && kind < ABOVE.length;
        }

        static boolean isUnder(int kind, int upper) {
            int k = kind;
            for (int i = 0; i < ABOVE.length && isKind(k); i++) {
                if (k == upper) {
                    return true;
                }
                k = ABOVE[k];
            }
            return false;
        }

        int size() {
            return size;
        }

        boolean has(int thing) {
            return thing >= 0 && thing < size;
        }

        boolean hasAll(int bits) {
            return areBelow(bits, size);
        }

        boolean hasSome(int bits) {
            return bits != 0 && hasAll(bits);
        }

        boolean isFull() {
            return size >= MOST;
        }

        int add(int kind, int row, int number, int hour) {
            kinds[size] = kind;
            rowNumbers[size] = row;
            numbers[size] = number;
            hours[size] = hour;
            steps[size] = ALL_STEPS;
            return size++;
        }

        int kindOf(int thing) {
            return kinds[thing];
        }

        int rowUsed(int thing) {
            return rowNumbers[thing];
        }

        int numberOf(int thing) {
            return numbers[thing];
        }

        int hourTold(int thing) {
            return hours[thing];
        }

        int stepsOf(int thing) {
            return steps[thing];
        }

        int stillNow(int thing, int hour) {
            return ages.stillAt(thing, hour - hours[thing]);
        }

        int changeSteps(int thing, int others) {
            int till = steps[thing];
            steps[thing] = others;
            return till;
        }

        /** Turns a LIGHT into another array, never into its own. */
        void turn(int thing, int[] light, int[] to) {
            int[] row = rows.get(rowNumbers[thing]);
            for (int c = 0; c < COLOURS; c++) {
                to[c] = limited(turned(thing, light[c], row[c]));
            }
            if (kinds[thing] == GLOWING) {
                int glow = numbers[thing] % COLOURS;
                to[glow] = limited((long) to[glow] + light[0] / 2);
            }
        }

        private long turned(int thing, long x, long r) {
            switch (kinds[thing]) {
                case LAMP: return asThing(x, r) + r;
                case WORN: return (asThing(x, r) + r) * (WHOLE - numbers[thing]) / WHOLE;
                case GLASS:
                case GLOWING: return asGlass(x, r);
                case DEEP: return asGlass(asGlass(x, r), r);
                default: return asThing(x, r);
            }
        }

        private static long asThing(long x, long r) {
            return x * r / 1000;
        }

        private static long asGlass(long x, long r) {
            return asThing(x, 500 + r / 2);
        }

        void wear(int thing, int hour, int[] light) {
            long part = stillNow(thing, hour);
            for (int c = 0; c < COLOURS; c++) {
                light[c] = (int) (light[c] * part / WHOLE);
            }
        }

        int stepsOn(int thing, int first, int w) {
            int on = 0;
            for (int i = 0; i < w; i++) {
                on += steps[thing] >> (first + i) % STEPS & 1;
            }
            return on;
        }

        int unevenness(int thing, int n, int s, int w) {
            int least = w;
            int greatest = 0;
            for (int i = 0; i < n; i++) {
                int on = stepsOn(thing, i * s, w);
                least = Math.min(least, on);
                greatest = Math.max(greatest, on);
            }
            return greatest - least;
        }
    }

    private static final class Eyes {
        private static final int MOST = 8, MOST_TAKERS = 3;

        private final Eights rows;
        private final int[][] takers = new int[MOST][MOST_TAKERS];
        private final int[] sizes = new int[MOST];
        private int size = 0;

        Eyes(Eights rows) {
            this.rows = rows;
        }

        int size() {
            return size;
        }

        boolean has(int eye) {
            return eye >= 0 && eye < size;
        }

        boolean hasAll(int bits) {
            return areBelow(bits, size);
        }

        boolean hasTaker(int eye, int taker) {
            return taker >= 0 && taker < sizes[eye];
        }

        boolean isFull() {
            return size >= MOST;
        }

        int add(int first, int second, int third) {
            takers[size][0] = first;
            takers[size][1] = second;
            takers[size][2] = third;
            sizes[size] = third == NONE ? 2 : MOST_TAKERS;
            return size++;
        }

        int takerCount(int eye) {
            return sizes[eye];
        }

        long sight(int eye, int taker, int[] light) {
            int[] row = rows.get(takers[eye][taker]);
            long sum = 0;
            for (int c = 0; c < COLOURS; c++) {
                sum += (long) light[c] * row[c];
            }
            return sum;
        }

        /** By how much a TAKER sees two LIGHTS unlike: one walk for both. */
        long apart(int eye, int taker, int[] a, int[] b) {
            int[] row = rows.get(takers[eye][taker]);
            long sum = 0;
            for (int c = 0; c < COLOURS; c++) {
                sum += (long) (a[c] - b[c]) * row[c];
            }
            return Math.abs(sum);
        }

        boolean isSame(int eye, int[] a, int[] b) {
            for (int taker = 0; taker < sizes[eye]; taker++) {
                if (apart(eye, taker, a, b) != 0) {
                    return false;
                }
            }
            return true;
        }
    }

    /**
     * THE TAPE, and how it is read: each method of the grammar answers whether
     * its part stands, and leaves the token that can't stand as the one ahead.
     */
    private static final class Reader {
        /** TOKENS: words by their places in WORDS, signs by their own bytes. */
        static final int END = 0, BROKEN = 1, NUMBER = 2;
        static final int LIKE = 3, TRUE = 4, OR = 5, AND = 6, NOT = 7;
        static final int A = 8, B = 9, C = 10, SUM = 11, KIND = 12, HOUR = 13;
        /** A - ahead of a ONE: no TOKEN of its own, but an order of its own. */
        static final int NEGATE = 14;
        private static final String WORDS = "like true or   and  not  a    b    c    sum  kind hour ";
        private static final int WIDTH = 5;
        private static final String SIGNS = "();+-*<=";
        private static final int MOST_BYTES = 160, MOST_OPEN = 5, MOST_DIGITS = 4;

        private final int[] bytes = new int[MOST_BYTES];
        private int size = 0;
        private int token = END;
        private int start = 0;
        private int end = 0;
        private int number = 0;
        /** Orders for a stack: 0 and more puts a NUMBER, below 0 a token's. */
        private final int[] code = new int[MOST_BYTES];
        private int codeSize = 0;
        private int trueStart = 0;

        static boolean isName(int token) {
            return token >= A && token <= HOUR;
        }

        int size() {
            return size;
        }

        boolean hasRoom(int n) {
            return size + n <= MOST_BYTES;
        }

        int append(int n, long number) {
            for (int i = 0; i < n; i++) {
                bytes[size] = (int) (number >> 8 * i) & 255;
                size++;
            }
            return size;
        }

        void empty() {
            size = 0;
        }

        int place() {
            return start;
        }

        int[] code() {
            return code;
        }

        int codeSize() {
            return codeSize;
        }

        int trueStart() {
            return trueStart;
        }

        boolean read() {
            end = 0;
            codeSize = 0;
            step();
            if (!skip(LIKE) || !readE(0) || !skip(';')) {
                return false;
            }
            trueStart = codeSize;
            return skip(TRUE) && readE(0) && skip(';') && token == END;
        }

        private boolean skip(int due) {
            if (token != due) {
                return false;
            }
            step();
            return true;
        }

        private void emit(int order) {
            if (codeSize < code.length) {
                code[codeSize] = order;
                codeSize++;
            }
        }

        private boolean readE(int open) {
            if (!readAnd(open)) {
                return false;
            }
            for (int i = 0; i < MOST_BYTES && token == OR; i++) {
                step();
                if (!readAnd(open)) {
                    return false;
                }
                emit(-OR);
            }
            return true;
        }

        private boolean readAnd(int open) {
            if (!readNot(open)) {
                return false;
            }
            for (int i = 0; i < MOST_BYTES && token == AND; i++) {
                step();
                if (!readNot(open)) {
                    return false;
                }
                emit(-AND);
            }
            return true;
        }

        private boolean readNot(int open) {
            if (token == NOT) {
                if (!opens(open) || !readNot(open + 1)) {
                    return false;
                }
                emit(-NOT);
                return true;
            }
            if (!readSum(open)) {
                return false;
            }
            if (token != '<' && token != '=') {
                return true;
            }
            int sign = token;
            step();
            if (!readSum(open)) {
                return false;
            }
            emit(-sign);
            return true;
        }

        private boolean readSum(int open) {
            if (!readTerm(open)) {
                return false;
            }
            for (int i = 0; i < MOST_BYTES && (token == '+' || token == '-'); i++) {
                int sign = token;
                step();
                if (!readTerm(open)) {
                    return false;
                }
                emit(-sign);
            }
            return true;
        }

        private boolean readTerm(int open) {
            if (!readOne(open)) {
                return false;
            }
            for (int i = 0; i < MOST_BYTES && token == '*'; i++) {
                step();
                if (!readOne(open)) {
                    return false;
                }
                emit(-'*');
            }
            return true;
        }

        private boolean readOne(int open) {
            if (token == '(') {
                return opens(open) && readE(open + 1) && skip(')');
            }
            if (token == '-') {
                if (!opens(open) || !readOne(open + 1)) {
                    return false;
                }
                emit(-NEGATE);
                return true;
            }
            if (token != NUMBER && !isName(token)) {
                return false;
            }
            emit(token == NUMBER ? number : -token);
            step();
            return true;
        }

        /** Goes on behind a ( , not or - unless too many are open there. */
        private boolean opens(int open) {
            if (open >= MOST_OPEN) {
                return false;
            }
            step();
            return true;
        }

        private void step() {
            start = end;
            while (start < size && (bytes[start] == ' ' || bytes[start] == '\n')) {
                start++;
            }
            end = start;
            if (start >= size) {
                token = END;
            } else if (isDigit(bytes[start])) {
                stepNumber();
            } else if (isLetter(bytes[start])) {
                stepWord();
            } else {
                end = start + 1;
                token = SIGNS.indexOf((char) bytes[start]) >= 0 ? bytes[start] : BROKEN;
            }
        }

        private void stepNumber() {
            number = 0;
            while (end < size && isDigit(bytes[end])) {
                number = number * 10 + bytes[end] - '0';
                end++;
            }
            token = end - start > MOST_DIGITS ? BROKEN : NUMBER;
        }

        private void stepWord() {
            while (end < size && isLetter(bytes[end])) {
                end++;
            }
            token = BROKEN;
            for (int word = LIKE; word <= HOUR && token == BROKEN; word++) {
                if (isWord(word)) {
                    token = word;
                }
            }
        }

        private boolean isWord(int word) {
            int from = (word - LIKE) * WIDTH;
            if (end - start >= WIDTH || from + WIDTH > WORDS.length()) {
                return false;
            }
            for (int i = 0; i < WIDTH; i++) {
                int letter = start + i < end ? bytes[start + i] : ' ';
                if (WORDS.charAt(from + i) != letter) {
                    return false;
                }
            }
            return true;
        }

        private static boolean isDigit(int b) {
            return b >= '0' && b <= '9';
        }

        private static boolean isLetter(int b) {
            return b >= 'a' && b <= 'z';
        }
    }

    /** TEXTS as orders for a stack, and what THE RULE among them tells. */
    private static final class Rules {
        private static final int MOST = 6, MOST_UNLIKE = 1000000;
        /** like sum ; true a + b + c ; */
        private static final int[] FIRST =
            {-Reader.SUM, -Reader.A, -Reader.B, -'+', -Reader.C, -'+'};
        private static final int FIRST_TRUE = 1;

        private final Eyes eyes;
        private final int[][] codes = new int[MOST][Reader.MOST_BYTES];
        private final int[] trueStarts = new int[MOST];
        private final int[] ends = new int[MOST];
        private final int[] facts = new int[Reader.HOUR - Reader.A + 1];
        private final int[] stack = new int[Reader.MOST_BYTES];
        private int size = 1;
        private int rule = 0;

        Rules(Eyes eyes) {
            this.eyes = eyes;
            System.arraycopy(FIRST, 0, codes[0], 0, FIRST.length);
            trueStarts[0] = FIRST_TRUE;
            ends[0] = FIRST.length;
        }

        int size() {
            return size;
        }

        boolean has(int text) {
            return text >= 0 && text < size;
        }

        boolean isFull() {
            return size >= MOST;
        }

        int chosen() {
            return rule;
        }

        int choose(int text) {
            int till = rule;
            rule = text;
            return till;
        }

        int add(Reader read) {
            System.arraycopy(read.code(), 0, codes[size], 0, read.codeSize());
            trueStarts[size] = read.trueStart();
            ends[size] = read.codeSize();
            return size++;
        }

        int likeness(int eye, int[] a, int[] b, int hour) {
            compare(eye, a, b);
            setFact(Reader.KIND, eyes.takerCount(eye));
            setFact(Reader.HOUR, hour);
            return value(codes[rule], 0, trueStarts[rule]);
        }

        int trueness(int eye, int[] a, int[] b, int kind, int hour) {
            compare(eye, a, b);
            setFact(Reader.KIND, kind);
            setFact(Reader.HOUR, hour);
            return value(codes[rule], trueStarts[rule], ends[rule]);
        }

        private void setFact(int name, int value) {
            facts[name - Reader.A] = value;
        }

        private void compare(int eye, int[] a, int[] b) {
            int sum = 0;
            for (int taker = 0; taker < Eyes.MOST_TAKERS; taker++) {
                long unlike = eyes.hasTaker(eye, taker) ? eyes.apart(eye, taker, a, b) / 1000 : 0;
                int fact = (int) Math.min(unlike, (long) MOST_UNLIKE);
                setFact(Reader.A + taker, fact);
                sum += fact;
            }
            setFact(Reader.SUM, sum);
        }

        /** What the reader wrote keeps the stack in its bounds; the tests stay as guards. */
        private int value(int[] code, int from, int to) {
            int top = 0;
            for (int i = from; i < to && i < code.length; i++) {
                int order = code[i];
                if (order >= 0 || Reader.isName(-order)) {
                    if (top >= stack.length) {
                        return 0;
                    }
                    stack[top] = order >= 0 ? order : facts[-order - Reader.A];
                    top++;
                } else if (order == -Reader.NEGATE || order == -Reader.NOT) {
                    if (top < 1) {
                        return 0;
                    }
                    stack[top - 1] = order == -Reader.NOT ? truth(stack[top - 1] == 0) : -stack[top - 1];
                } else {
                    if (top < 2) {
                        return 0;
                    }
                    top--;
                    stack[top - 1] = joined(-order, stack[top - 1], stack[top]);
                }
            }
            return stack[0];
        }

        private static int joined(int order, int x, int y) {
            switch (order) {
                case Reader.OR: return truth(x != 0 || y != 0);
                case Reader.AND: return truth(x != 0 && y != 0);
                case '<': return truth(x < y);
                case '=': return truth(x == y);
                case '+': return x + y;
                case '-': return x - y;
                default: return x * y;
            }
        }

        private static int truth(boolean is) {
            return is ? 1 : 0;
        }
    }

    /** Looks for what comes nearest to a wished LIGHT: MIXED and LAYERS. */
    private static final class Nearest {
        static final int MOST_MIXED = 3, MOST_LAYERS = 5;
        private static final int TENTHS = 10;

        private final Rules rules;
        private final Things things;
        private final Eights lights;
        private int eye = 0;
        private int hour = 0;
        private int[] wished = new int[COLOURS];
        private boolean found = false;
        private int least = 0;
        private final int[] told = new int[MOST_MIXED];
        private final int[] parts = new int[MOST_MIXED];
        private final int[] trial = new int[MOST_MIXED];
        private final int[] mixture = new int[COLOURS];
        private final int[][] laid = new int[MOST_LAYERS + 1][COLOURS];
        private final int[] order = new int[MOST_LAYERS];
        private final int[] best = new int[MOST_LAYERS];
        private int bestSize = 0;

        Nearest(Rules rules, Things things, Eights lights) {
            this.rules = rules;
            this.things = things;
            this.lights = lights;
        }

        void wish(int eye, int[] wished, int hour) {
            this.eye = eye;
            this.wished = wished;
            this.hour = hour;
            found = false;
        }

        int likeness() {
            return least;
        }

        int part(int i) {
            return parts[i];
        }

        int layerCount() {
            return bestSize;
        }

        int layer(int i) {
            return best[i];
        }

        /** The parts are tried in the order that tells like ones apart: the first is kept. */
        void mix(int bits) {
            int n = 0;
            for (int light = 0; light < lights.size() && n < MOST_MIXED; light++) {
                if (isTold(bits, light)) {
                    told[n] = light;
                    n++;
                }
            }
            for (int p = 0; p <= TENTHS; p++) {
                for (int q = 0; q <= TENTHS - p; q++) {
                    tryParts(n, p, q, TENTHS - p - q);
                }
            }
        }

        private void tryParts(int n, int p, int q, int r) {
            boolean isPartOfNone = n < 2 && q > 0 || n < MOST_MIXED && r > 0;
            if (isPartOfNone) {
                return;
            }
            trial[0] = p;
            trial[1] = q;
            trial[2] = r;
            for (int c = 0; c < COLOURS; c++) {
                long sum = 0;
                for (int i = 0; i < n; i++) {
                    sum += (long) trial[i] * lights.get(told[i])[c];
                }
                mixture[c] = (int) (sum / TENTHS);
            }
            int value = rules.likeness(eye, mixture, wished, hour);
            if (!found || value < least) {
                found = true;
                least = value;
                System.arraycopy(trial, 0, parts, 0, MOST_MIXED);
            }
        }

        void lay(int bits, int[] light) {
            System.arraycopy(light, 0, laid[0], 0, COLOURS);
            tryLayers(bits, 0);
        }

        /** Orders of one size come by their first THINGS, so the first of like ones is kept. */
        private void tryLayers(int left, int depth) {
            int value = rules.likeness(eye, laid[depth], wished, hour);
            if (!found || value < least || value == least && depth < bestSize) {
                found = true;
                least = value;
                bestSize = depth;
                System.arraycopy(order, 0, best, 0, depth);
            }
            if (depth >= MOST_LAYERS) {
                return;
            }
            for (int thing = 0; thing < things.size(); thing++) {
                if (isTold(left, thing)) {
                    order[depth] = thing;
                    things.turn(thing, laid[depth], laid[depth + 1]);
                    tryLayers(left & ~(1 << thing), depth + 1);
                }
            }
        }
    }

    private static final class Plates {
        private static final int MOST = 10;

        private final Eyes eyes;
        private final Eights lights;
        private final int[] firsts = new int[MOST];
        private final int[] seconds = new int[MOST];
        private final int[] unlike = new int[Eyes.MOST * (Eyes.MOST - 1) / 2];
        private int unlikeSize = 0;
        private int size = 0;

        Plates(Eyes eyes, Eights lights) {
            this.eyes = eyes;
            this.lights = lights;
        }

        int size() {
            return size;
        }

        boolean isFull() {
            return size >= MOST;
        }

        int add(int a, int b) {
            firsts[size] = a;
            seconds[size] = b;
            return size++;
        }

        int readBy(int eye) {
            int bits = 0;
            for (int i = 0; i < size; i++) {
                if (!eyes.isSame(eye, lights.get(firsts[i]), lights.get(seconds[i]))) {
                    bits |= 1 << i;
                }
            }
            return bits;
        }

        /** Sets come from the least as bits on, so only a smaller one replaces. */
        int fewestFor(int told) {
            findUnlike(told);
            int fewest = NONE;
            for (int set = 0; set < 1 << size; set++) {
                boolean isSmaller = fewest == NONE || Integer.bitCount(set) < Integer.bitCount(fewest);
                if (isSmaller && tellsApart(set)) {
                    fewest = set;
                }
            }
            return fewest;
        }

        /** For each pair of told EYES the PLATES that one of them alone reads. */
        private void findUnlike(int told) {
            unlikeSize = 0;
            for (int a = 0; a < eyes.size(); a++) {
                for (int b = a + 1; b < eyes.size(); b++) {
                    if (isTold(told, a) && isTold(told, b) && unlikeSize < unlike.length) {
                        unlike[unlikeSize] = readBy(a) ^ readBy(b);
                        unlikeSize++;
                    }
                }
            }
        }

        private boolean tellsApart(int set) {
            for (int i = 0; i < unlikeSize; i++) {
                if ((unlike[i] & set) == 0) {
                    return false;
                }
            }
            return true;
        }
    }

    /**
     * FILTERS and the HIDDEN ROWS that fit them. A HIDDEN ROW is two halves of
     * 4 COLOURS, each a number to the base 4; what all FILTERS make of a half
     * is one long, 16 bits each, so that a pair of halves is tried by one sum.
     */
    private static final class Filters {
        private static final int MOST = 4, HALF = 4, HALVES = 256, LAST_HIDDEN = 3, BITS = 16;

        private final long[] weights = new long[COLOURS];
        private long readings = 0;
        private int size = 0;
        private final long[] low = new long[HALVES];
        private final long[] high = new long[HALVES];
        private final boolean[] highFits = new boolean[HALVES];
        private final int[] least = new int[COLOURS];
        private final int[] most = new int[COLOURS];
        private int fits = 0;
        private boolean isKnown = false;

        int size() {
            return size;
        }

        boolean isFull() {
            return size >= MOST;
        }

        int add(int[] row, int reading) {
            for (int c = 0; c < COLOURS; c++) {
                weights[c] |= (long) (row[c] % 10) << BITS * size;
            }
            readings |= (long) reading << BITS * size;
            isKnown = false;
            return size++;
        }

        int fitting() {
            if (!isKnown) {
                search();
                isKnown = true;
            }
            return fits;
        }

        int leastOf(int colour) {
            return least[colour];
        }

        int mostOf(int colour) {
            return most[colour];
        }

        private void search() {
            weigh(0, low);
            weigh(HALF, high);
            Arrays.fill(least, LAST_HIDDEN);
            Arrays.fill(most, 0);
            for (int b = 0; b < HALVES; b++) {
                highFits[b] = false;
            }
            fits = 0;
            for (int a = 0; a < HALVES; a++) {
                int before = fits;
                tryWith(readings - low[a]);
                if (fits > before) {
                    note(a, 0);
                }
            }
            for (int b = 0; b < HALVES; b++) {
                if (highFits[b]) {
                    note(b, HALF);
                }
            }
        }

        private void weigh(int from, long[] sums) {
            for (int half = 0; half < HALVES; half++) {
                long sum = 0;
                for (int i = 0; i < HALF; i++) {
                    sum += weights[from + i] * digit(half, i);
                }
                sums[half] = sum;
            }
        }

        private void tryWith(long rest) {
            for (int b = 0; b < HALVES; b++) {
                if (high[b] == rest) {
                    fits++;
                    highFits[b] = true;
                }
            }
        }

        private void note(int half, int from) {
            for (int i = 0; i < HALF; i++) {
                int number = digit(half, i);
                least[from + i] = Math.min(least[from + i], number);
                most[from + i] = Math.max(most[from + i], number);
            }
        }

        private static int digit(int half, int i) {
            return half >> 2 * i & LAST_HIDDEN;
        }
    }

    private static final class Sheets {
        static final int MISSING = -1, MOST_ITEMS = 40;
        private static final int MOST = 4, BYTES = 0, SHORTS = 1, INTS = 2;

        private final int[][] items = new int[MOST][MOST_ITEMS];
        private final int[] sorts = {MISSING, MISSING, MISSING, MISSING};
        private final int[] sizes = new int[MOST];

        static boolean isPlace(int sheet) {
            return sheet >= 0 && sheet < MOST;
        }

        static boolean isSort(int sort) {
            return sort >= BYTES && sort <= INTS;
        }

        boolean isMissing(int sheet) {
            return sorts[sheet] == MISSING;
        }

        int sortOf(int sheet) {
            return sorts[sheet];
        }

        int[] get(int sheet) {
            return items[sheet];
        }

        /** Whether n items from one on are there, without a sum that could wrap. */
        boolean holds(int sheet, int from, int n) {
            return from >= 0 && n >= 0 && from <= sizes[sheet] && n <= sizes[sheet] - from;
        }

        int remove(int sheet) {
            sorts[sheet] = MISSING;
            return 1;
        }

        int make(int sheet, int sort, int n) {
            Arrays.fill(items[sheet], 0);
            sorts[sheet] = sort;
            sizes[sheet] = n;
            return 1;
        }

        int put(int sheet, int i, int v) {
            items[sheet][i] = sorts[sheet] == BYTES ? (byte) v : sorts[sheet] == SHORTS ? (short) v : v;
            return 1;
        }
    }
}
