import java.lang.reflect.Constructor;
import java.lang.reflect.Field;
import java.lang.reflect.Method;
import java.lang.reflect.Modifier;
import java.nio.file.Files;
import java.nio.file.Path;
import java.util.Arrays;
import java.util.Set;
import java.util.TreeSet;
import java.util.regex.Matcher;
import java.util.regex.Pattern;
import java.util.stream.Collectors;

/** The public face, and those rules of the language that a look at the text can tell. */
public final class FaceTest {
    private static final Check CHECK = new Check("face");
    private static final Path SOURCE = Path.of("src/main/java/LampHouse.java");
    private static final String FACE = """
        int pass(int)
        int row(long,long)
        int rowTold(int,int)
        int thing(int,int,int)
        int thingTold(int,int)
        int light(int)
        int shine(int,int,int)
        int both(int,int)
        int lightTold(int,int)
        int eye(int,int,int)
        long seen(int,int,int)
        int same(int,int,int)
        int twins(int,int,int)
        int feed(int,long)
        int text()
        int force(int)
        long like(int,int,int)
        int mixed(int,int,int,int)
        long trueOf(int,int,int,int)
        int worst(int,int,int,int)
        int layers(int,int,int,int,int)
        int plate(int,int)
        int reads(int)
        int chart(int)
        int age(int,int,int)
        int still(int,int)
        int flicker(int,int)
        int film(int,int,int,int)
        int stripes(int,int,int,int)
        int quietest(int,int,int,int)
        int filter(int,int)
        int hidden(int,int)
        int count(int)
        int sheet(int,int,int)
        int cell(int,int,int)
        int copy(int,int,int,int,int)
        int rowOf(int,int,int)
        int taken(int,int)
        """;

    private static void is(String what, boolean is) {
        CHECK.due(what, is ? 1 : 0, 1);
    }

    private static String told(Method m) {
        String types = Arrays.stream(m.getParameterTypes()).map(Class::getName).collect(Collectors.joining(","));
        return m.getReturnType().getName() + " " + m.getName() + "(" + types + ")";
    }

    private static void face() {
        Class<?> c = LampHouse.class;
        is("public and final", Modifier.isPublic(c.getModifiers()) && Modifier.isFinal(c.getModifiers()));
        Set<String> due = new TreeSet<>(FACE.lines().toList());
        Set<String> got = new TreeSet<>();
        for (Method m : c.getDeclaredMethods()) {
            if (!Modifier.isPrivate(m.getModifiers()) && !m.isSynthetic()) {
                is("public: " + told(m), Modifier.isPublic(m.getModifiers()) && !Modifier.isStatic(m.getModifiers()));
                got.add(told(m));
            }
        }
        is("the methods are " + due + ", not " + got, due.equals(got));
        Constructor<?>[] made = c.getDeclaredConstructors();
        is("one public constructor", made.length == 1 && Modifier.isPublic(made[0].getModifiers())
            && made[0].getParameterCount() == 0);
        Set<String> fields = new TreeSet<>();
        for (Field f : c.getDeclaredFields()) {
            if (!Modifier.isPrivate(f.getModifiers())) {
                fields.add(f.getType() + " " + f.getName());
            }
        }
        is("the constants, not " + fields,
            fields.equals(Set.of("int NONE", "int BAD", "int STATE", "int FULL", "long NO")));
        CHECK.due("NONE", LampHouse.NONE, -1);
        CHECK.due("BAD", LampHouse.BAD, -2);
        CHECK.due("STATE", LampHouse.STATE, -3);
        CHECK.due("FULL", LampHouse.FULL, -4);
        CHECK.due("NO", LampHouse.NO, -4611686018427387904L);
    }

    private static void classesInside() {
        Set<String> names = Arrays.stream(LampHouse.class.getDeclaredMethods())
            .filter(m -> Modifier.isPublic(m.getModifiers())).map(Method::getName).collect(Collectors.toSet());
        Class<?>[] inside = LampHouse.class.getDeclaredClasses();
        is("some twelve classes", inside.length <= 12);
        for (Class<?> c : inside) {
            is(c + " is static", Modifier.isStatic(c.getModifiers()) && !Modifier.isPublic(c.getModifiers()));
            for (Method m : c.getDeclaredMethods()) {
                is(m + " bears a name of its own", !names.contains(m.getName()));
                is(m + " has few parameters", m.getParameterCount() <= 7);
            }
            long fields = Arrays.stream(c.getDeclaredFields()).filter(f -> !Modifier.isStatic(f.getModifiers())).count();
            is(c + " has few fields", fields <= 20);
            for (Field f : c.getDeclaredFields()) {
                is(f + " static is final", !Modifier.isStatic(f.getModifiers()) || Modifier.isFinal(f.getModifiers()));
            }
        }
    }

    private static void text() throws Exception {
        String code = Files.readString(SOURCE);
        is("signs 1 to 127", code.chars().allMatch(c -> c < 127));
        String bare = code.replaceAll("(?s)/\\*.*?\\*/", "").replaceAll("//.*", "")
            .replaceAll("\"(\\\\.|[^\"\\\\])*\"", "\"\"").replaceAll("'(\\\\.|[^'\\\\])'", "' '");
        String[] banned = {"throw", "throws", "try", "catch", "synchronized", "assert", "package", "Object",
            "toString", "hashCode", "Thread", "Random", "HashMap", "Map", "Set", "Exact", "interface", "native"};
        for (String word : banned) {
            is("no " + word, !Pattern.compile("\\b" + word + "\\b").matcher(bare).find());
        }
        is("no lambda, no method reference", !bare.contains("->") && !bare.contains("::"));
        Matcher imports = Pattern.compile("import ([\\w.]+);").matcher(bare);
        while (imports.find()) {
            is("import " + imports.group(1), imports.group(1).equals("java.util.Arrays"));
        }
        int from = 0;
        int line = 0;
        for (String row : code.lines().toList()) {
            line++;
            if (row.matches("    (    )?[\\w\\[\\]. ]+\\([\\w\\[\\], ]*\\) \\{")) {
                from = line;
            } else if (row.matches("    (    )?\\}") && from > 0) {
                is("the method at line " + from + " is short", line - from <= 60);
            }
        }
    }

    public static void main(String[] args) throws Exception {
        face();
        classesInside();
        text();
        CHECK.end();
    }
}
