import java.lang.reflect.Field;
import java.lang.reflect.Method;
import java.lang.reflect.Modifier;
import java.net.URL;
import java.net.URLClassLoader;
import java.nio.file.Files;
import java.nio.file.Path;
import java.util.ArrayList;
import java.util.Arrays;
import java.util.List;
import java.util.Set;
import java.util.TreeSet;
import java.util.regex.Matcher;
import java.util.regex.Pattern;
import java.util.stream.Collectors;
import java.util.stream.Stream;

/** What README.md shows is what the class answers, and what the project has. */
public final class ReadmeTest {
    private static final Check CHECK = new Check("readme");
    /** A call, perhaps kept by a name, with its answer behind it. */
    private static final Pattern SHOWN =
        Pattern.compile("(?:(?:int|long) (\\w+) = )?(house\\.(\\w+)\\(.*\\)); +// (?:(-?\\d+)|([A-Z]+))(?:: .*)?");
    /** The lines that show no answer. */
    private static final Pattern SILENT =
        Pattern.compile("LampHouse house = new LampHouse\\(\\);|for \\(.*\\) house\\.feed\\(1, c\\);");

    private final String page = Project.page();
    private final Set<String> called = new TreeSet<>();

    private ReadmeTest() throws Exception {
    }

    private static void is(String what, boolean is) {
        CHECK.due(what, is ? 1 : 0, 1);
    }

    private static boolean isProgram(String block) {
        return block.contains(" class ");
    }

    /** A line of an example, which also notes what came of it and what is due. */
    private String noting(String line) {
        Matcher shown = SHOWN.matcher(line);
        if (!shown.matches()) {
            is("README.md shows an answer, or a line that needs none: " + line, SILENT.matcher(line).matches());
            return line + "\n";
        }
        called.add(shown.group(3));
        String kept = shown.group(1) == null ? "" : line.substring(0, line.indexOf(';') + 1);
        String got = shown.group(1) == null ? shown.group(2) : shown.group(1);
        String due = shown.group(4) == null ? "LampHouse." + shown.group(5) : shown.group(4) + "L";
        String call = shown.group(2).replace("\\", "\\\\").replace("\"", "\\\"");
        return kept + " calls.add(\"" + call + "\"); got.add((long) " + got + "); due.add((long) " + due + ");\n";
    }

    private String examples() {
        StringBuilder made = new StringBuilder("import java.util.List;\npublic final class Shown {\n"
            + "public static void run(List<String> calls, List<Long> got, List<Long> due) {\n");
        for (String block : Project.blocks(page, "java")) {
            if (!isProgram(block)) {
                made.append("{\n");
                block.lines().forEach(line -> made.append(noting(line)));
                made.append("}\n");
            }
        }
        return made.append("}\n}\n").toString();
    }

    private void answers() throws Exception {
        List<String> calls = new ArrayList<>();
        List<Long> got = new ArrayList<>();
        List<Long> due = new ArrayList<>();
        try (Project project = new Project()) {
            project.put("Shown.java", examples());
            int compiled = project.run("javac -d out src/main/java/LampHouse.java Shown.java");
            CHECK.due("compiling what README.md shows: " + project.output(), compiled, 0);
            if (compiled == 0) {
                URL[] made = {project.folder().resolve("out").toUri().toURL()};
                // No parent, so that none of this test's own classes takes part.
                try (URLClassLoader loader = new URLClassLoader(made, null)) {
                    loader.loadClass("Shown").getMethod("run", List.class, List.class, List.class)
                        .invoke(null, calls, got, due);
                }
            }
        }
        for (int i = 0; i < calls.size(); i++) {
            CHECK.due(calls.get(i) + " in README.md", got.get(i), due.get(i));
        }
        for (Method m : LampHouse.class.getDeclaredMethods()) {
            if (Modifier.isPublic(m.getModifiers())) {
                is("README.md shows " + m.getName(), called.contains(m.getName()));
            }
        }
    }

    /** The program, compiled and run as the page tells, prints what the page shows. */
    private void program() throws Exception {
        String use = Project.section(page, "Use");
        List<String> programs = Project.blocks(use, "java").stream().filter(ReadmeTest::isProgram).toList();
        CHECK.due("programs in README.md", programs.size(), 1);
        CHECK.due("commands for it in README.md", Project.blocks(use, "sh").size(), 1);
        CHECK.due("what it prints in README.md", Project.blocks(use, "text").size(), 1);
        Matcher name = Pattern.compile("class (\\w+)").matcher(programs.get(0));
        is("the program has a name", name.find());
        try (Project project = new Project()) {
            project.put(name.group(1) + ".java", programs.get(0));
            CHECK.due("the program's commands", project.run(Project.blocks(use, "sh").get(0)), 0);
            String due = Project.blocks(use, "text").get(0);
            is("the program prints " + due + ", not " + project.output(), project.output().equals(due));
        }
    }

    private void constants() throws Exception {
        for (Field f : LampHouse.class.getDeclaredFields()) {
            if (Modifier.isPublic(f.getModifiers())) {
                String shown = "`" + f.getName() + "` (" + f.getLong(null) + ")";
                is("README.md has " + shown, page.contains(shown));
            }
        }
    }

    /** The names in the first cells of a section's tables. */
    private Set<String> named(String heading) {
        Set<String> names = new TreeSet<>();
        for (String line : Project.section(page, heading).lines().toList()) {
            if (line.startsWith("| `")) {
                Matcher name = Pattern.compile("`(\\w+)`").matcher(line.split("\\|")[1]);
                while (name.find()) {
                    names.add(name.group(1));
                }
            }
        }
        return names;
    }

    private void names() throws Exception {
        Set<String> inside = Arrays.stream(LampHouse.class.getDeclaredClasses()).map(Class::getSimpleName)
            .collect(Collectors.toCollection(TreeSet::new));
        is("README.md tells the classes " + inside, named("How it is built").equals(inside));
        try (Stream<Path> files = Files.list(Path.of("src/test/java"))) {
            Set<String> all = files.map(p -> p.getFileName().toString().replace(".java", ""))
                .collect(Collectors.toCollection(TreeSet::new));
            for (String name : all) {
                is("README.md names " + name, page.contains("`" + name + "`"));
            }
            all.removeIf(name -> !name.endsWith("Test"));
            is("README.md tells the tests " + all, named("Tests").equals(all));
        }
    }

    public static void main(String[] args) throws Exception {
        ReadmeTest test = new ReadmeTest();
        test.answers();
        test.program();
        test.constants();
        test.names();
        CHECK.end();
    }
}
