import java.lang.reflect.Constructor;
import java.lang.reflect.Field;
import java.lang.reflect.Method;
import java.lang.reflect.Modifier;
import java.nio.file.Files;
import java.nio.file.Path;
import java.util.Arrays;
import java.util.Set;
import java.util.TreeSet;
import java.util.regex.Matcher;
import java.util.regex.Pattern;
import java.util.stream.Collectors;

/** The public face, and those rules of the language that a look at the text can tell. */
public final class FaceTest {
    private static final Check CHECK = new Check("face");
    private static final Path SOURCE = Path.of("src/main/java/LampHouse.java");
    private static final String FACE = """
        int pass(int n)
        int row(long first, long second)
        int rowTold(int row, int colour)
        int thing(int kind, int row, int number)
        int thingTold(int thing, int what)
        int light(int row)
        int shine(int light, int thing, int aged)
        int both(int a, int b)
        int lightTold(int light, int colour)
        int eye(int first, int second, int third)
        long seen(int eye, int taker, int light)
        int same(int eye, int a, int b)
        int twins(int one, int other, int i)
        int feed(int n, long bytes)
        int text()
        int force(int text)
        long like(int eye, int a, int b)
        int mixed(int eye, int lights, int wished, int i)
        long trueOf(int eye, int thing, int x, int y)
        int worst(int eye, int things, int x, int y)
        int layers(int eye, int things, int light, int wished, int i)
        int plate(int a, int b)
        int reads(int eye)
        int chart(int eyes)
        int age(int thing, int hour, int hundredths)
        int still(int thing, int hour)
        int flicker(int thing, int steps)
        int film(int thing, int s, int w, int i)
        int stripes(int thing, int n, int s, int w)
        int quietest(int things, int n, int s, int w)
        int filter(int row, int reading)
        int hidden(int what, int colour)
        int count(int what)
        int sheet(int sheet, int sort, int n)
        int cell(int sheet, int i, int v)
        int copy(int sheet, int i, int other, int j, int n)
        int rowOf(int sheet, int sort, int from)
        int taken(int thing, int k)
        """;

    private static void is(String what, boolean is) {
        CHECK.due(what, is ? 1 : 0, 1);
    }

    private static String told(Method m) {
        String types = Arrays.stream(m.getParameterTypes()).map(Class::getName).collect(Collectors.joining(","));
        return m.getReturnType().getName() + " " + m.getName() + "(" + types + ")";
    }

    private static void face() {
        Class<?> c = LampHouse.class;
        is("public and final", Modifier.isPublic(c.getModifiers()) && Modifier.isFinal(c.getModifiers()));
        Set<String> due = FACE.lines().map(line -> line.replaceAll(" \\w+(?=[,)])", "").replace(", ", ","))
            .collect(Collectors.toCollection(TreeSet::new));
        Set<String> got = new TreeSet<>();
        for (Method m : c.getDeclaredMethods()) {
            if (!Modifier.isPrivate(m.getModifiers()) && !m.isSynthetic()) {
                is("public: " + told(m), Modifier.isPublic(m.getModifiers()) && !Modifier.isStatic(m.getModifiers()));
                got.add(told(m));
            }
        }
        is("the methods are " + due + ", not " + got, due.equals(got));
        Constructor<?>[] made = c.getDeclaredConstructors();
        is("one public constructor", made.length == 1 && Modifier.isPublic(made[0].getModifiers())
            && made[0].getParameterCount() == 0);
        Set<String> fields = new TreeSet<>();
        for (Field f : c.getDeclaredFields()) {
            if (!Modifier.isPrivate(f.getModifiers())) {
                fields.add(f.getType() + " " + f.getName());
            }
        }
        is("the constants, not " + fields,
            fields.equals(Set.of("int NONE", "int BAD", "int STATE", "int FULL", "long NO")));
        CHECK.due("NONE", LampHouse.NONE, -1);
        CHECK.due("BAD", LampHouse.BAD, -2);
        CHECK.due("STATE", LampHouse.STATE, -3);
        CHECK.due("FULL", LampHouse.FULL, -4);
        CHECK.due("NO", LampHouse.NO, -4611686018427387904L);
    }

    private static void classesInside() {
        Set<String> names = Arrays.stream(LampHouse.class.getDeclaredMethods())
            .filter(m -> Modifier.isPublic(m.getModifiers())).map(Method::getName).collect(Collectors.toSet());
        Class<?>[] inside = LampHouse.class.getDeclaredClasses();
        is("some twelve classes", inside.length <= 12);
        for (Class<?> c : inside) {
            is(c + " is static", Modifier.isStatic(c.getModifiers()) && !Modifier.isPublic(c.getModifiers()));
            for (Method m : c.getDeclaredMethods()) {
                is(m + " bears a name of its own", !names.contains(m.getName()));
                is(m + " has few parameters", m.getParameterCount() <= 7);
            }
            long fields = Arrays.stream(c.getDeclaredFields()).filter(f -> !Modifier.isStatic(f.getModifiers())).count();
            is(c + " has few fields", fields <= 20);
            for (Field f : c.getDeclaredFields()) {
                is(f + " static is final", !Modifier.isStatic(f.getModifiers()) || Modifier.isFinal(f.getModifiers()));
            }
        }
    }

    private static void text() throws Exception {
        String code = Files.readString(SOURCE);
        is("signs 1 to 127", code.chars().allMatch(c -> c < 127));
        FACE.lines().forEach(line -> is("as the document writes it: " + line, code.contains("    public " + line + " {\n")));
        String bare = code.replaceAll("(?s)/\\*.*?\\*/", "").replaceAll("//.*", "")
            .replaceAll("\"(\\\\.|[^\"\\\\])*\"", "\"\"").replaceAll("'(\\\\.|[^'\\\\])'", "' '");
        String[] banned = {"throw", "throws", "try", "catch", "synchronized", "assert", "package", "Object",
            "toString", "hashCode", "Thread", "Random", "HashMap", "Map", "Set", "Exact", "interface", "native"};
        for (String word : banned) {
            is("no " + word, !Pattern.compile("\\b" + word + "\\b").matcher(bare).find());
        }
        is("no lambda, no method reference", !bare.contains("->") && !bare.contains("::"));
        Matcher imports = Pattern.compile("import ([\\w.]+);").matcher(bare);
        while (imports.find()) {
            is("import " + imports.group(1), imports.group(1).equals("java.util.Arrays"));
        }
        int from = 0;
        int line = 0;
        for (String row : code.lines().toList()) {
            line++;
            if (row.matches("    (    )?[\\w\\[\\]. ]+\\([\\w\\[\\], ]*\\) \\{")) {
                from = line;
            } else if (row.matches("    (    )?\\}") && from > 0) {
                is("the method at line " + from + " is short", line - from <= 60);
            }
        }
    }

    public static void main(String[] args) throws Exception {
        face();
        classesInside();
        text();
        CHECK.end();
    }
}
