import java.lang.reflect.InvocationTargetException;
import java.lang.reflect.Method;
import java.lang.reflect.Modifier;
import java.util.Arrays;
import java.util.Comparator;
import java.util.HashMap;
import java.util.List;
import java.util.Map;
import java.util.Random;

/** No call throws, whatever it is given and whatever was called before; the same calls answer the same. */
public final class WildTest {
    private static final Check CHECK = new Check("wild");
    private static final int HOUSES = 2000, CALLS = 512, OFTEN = 50;
    /** The bounds that the document names, and what lies far outside. */
    private static final long[] EDGES = {0, 1, 2, 3, 5, 7, 8, 10, 15, 16, 19, 20, 29, 30, 39, 40, 99, 100, 159, 160,
        999, 1000, 9999, 65535, 999999999999L, Integer.MAX_VALUE, Integer.MIN_VALUE, Long.MAX_VALUE, Long.MIN_VALUE};
    private static final String TEXT = "like - ( a + b ) * kind < 9999 or not c = sum ; true hour and 7 ;";
    private static final String SHORT_TEXT = "like a;true-c;";
    /** How many calls of each method were met, so that no method is refused all the time. */
    private static final Map<String, Integer> MET = new HashMap<>();

    private final List<Method> methods;
    private final Random random;
    private final LampHouse house = new LampHouse();
    private final LampHouse twin = new LampHouse();
    private int calls = 0;

    private WildTest(List<Method> methods, long seed) {
        this.methods = methods;
        random = new Random(seed);
    }

    private long wild() {
        return switch (random.nextInt(20)) {
            case 0 -> EDGES[random.nextInt(EDGES.length)] + random.nextInt(3) - 1;
            case 1 -> random.nextLong();
            case 2 -> 1L << random.nextInt(64);
            case 3, 4 -> -1 - random.nextInt(3);
            case 5, 6, 7 -> random.nextInt(1000);
            default -> random.nextInt(1 + random.nextInt(10));
        };
    }

    private Object[] arguments(Method m) {
        return Arrays.stream(m.getParameterTypes()).map(type -> {
            long number = wild();
            return type == int.class ? (Object) (int) number : (Object) number;
        }).toArray();
    }

    private static long answer(LampHouse x, Method m, Object[] arguments) throws IllegalAccessException {
        try {
            return ((Number) m.invoke(x, arguments)).longValue();
        } catch (InvocationTargetException thrown) {
            CHECK.due(m.getName() + Arrays.toString(arguments) + " threw " + thrown.getCause(), 1, 0);
            return 0;
        }
    }

    private void call(Method m, Object... arguments) throws IllegalAccessException {
        long got = answer(house, m, arguments);
        CHECK.due(m.getName() + Arrays.toString(arguments) + " once more", answer(twin, m, arguments), got);
        MET.merge(m.getName(), got >= 0 ? 1 : 0, Integer::sum);
        calls++;
    }

    private Method named(String name) {
        return methods.stream().filter(m -> m.getName().equals(name)).findFirst().orElseThrow();
    }

    /** A good text, which wild bytes never make, perhaps behind what they left on THE TAPE. */
    private void tell(String text) throws IllegalAccessException {
        if (random.nextInt(4) > 0) {
            call(named("text"));
        }
        for (int at = 0; at < text.length(); at++) {
            call(named("feed"), 1, (long) text.charAt(at));
        }
        call(named("text"));
    }

    /** Without these nearly all that is wild would be refused. */
    private void furnish() throws IllegalAccessException {
        for (int i = random.nextInt(10); i >= 0; i--) {
            call(named("row"), random.nextLong(1000000000000L), random.nextLong(1000000000000L));
            call(named("light"), random.nextInt(3));
            call(named("thing"), random.nextInt(6), random.nextInt(3), random.nextInt(100));
            call(named("eye"), random.nextInt(3), random.nextInt(3), random.nextInt(4) - 1);
            call(named("plate"), random.nextInt(3), random.nextInt(3));
        }
        for (int sheet = 0; sheet < 4; sheet++) {
            call(named("sheet"), sheet, random.nextInt(3), random.nextInt(41));
        }
    }

    private void run() throws IllegalAccessException {
        furnish();
        // A method that is called again and again comes to where there is no room.
        Method often = methods.get(random.nextInt(methods.size()));
        boolean isCrowded = random.nextBoolean();
        boolean isTelling = random.nextInt(4) == 0;
        while (calls < CALLS - TEXT.length() - 2) {
            if (random.nextInt(isTelling ? 10 : 150) == 0) {
                tell(random.nextBoolean() ? TEXT : SHORT_TEXT);
            } else {
                Method any = methods.get(random.nextInt(methods.size()));
                Method m = isCrowded && random.nextInt(10) > 0 ? often : any;
                call(m, arguments(m));
            }
        }
    }

    public static void main(String[] args) throws IllegalAccessException {
        List<Method> methods = Arrays.stream(LampHouse.class.getDeclaredMethods())
            .filter(m -> Modifier.isPublic(m.getModifiers())).sorted(Comparator.comparing(Method::getName)).toList();
        for (int seed = 0; seed < HOUSES; seed++) {
            new WildTest(methods, seed).run();
        }
        for (Method m : methods) {
            CHECK.due(m.getName() + " is met often", MET.get(m.getName()) >= OFTEN ? 1 : 0, 1);
        }
        CHECK.end();
    }
}
