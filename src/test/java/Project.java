import java.io.IOException;
import java.nio.charset.StandardCharsets;
import java.nio.file.Files;
import java.nio.file.Path;
import java.nio.file.StandardCopyOption;
import java.util.Comparator;
import java.util.List;
import java.util.concurrent.TimeUnit;
import java.util.regex.Matcher;
import java.util.regex.Pattern;
import java.util.stream.Stream;

/**
 * A small copy of the project in a folder of its own, with two quick tests, so
 * that what README.md tells to do can be done without running this test again.
 */
final class Project implements AutoCloseable {
    static final String OWN = "src/test/java/OneTest.java", SHARED = "../shared/tests/SharedRuns.java";
    private static final String CLASS = "src/main/java/LampHouse.java", SCRIPT = ".ci/run";
    private static final int MOST_SECONDS = 300;

    private final Path home = Files.createTempDirectory("lamphouse");
    private final Path main = home.resolve("main");
    private String output = "";

    Project() throws IOException {
        for (String name : List.of(CLASS, SCRIPT)) {
            Files.createDirectories(main.resolve(name).getParent());
            Files.copy(Path.of(name), main.resolve(name), StandardCopyOption.COPY_ATTRIBUTES);
        }
        put(OWN, test("OneTest", "if (new LampHouse().pass(1) != 1) { System.exit(1); }"));
        put(SHARED, test("SharedRuns", "if (new LampHouse().count(5) != 1) { System.exit(1); }"));
    }

    static String test(String name, String body) {
        return "public final class " + name + " { public static void main(String[] args) { " + body + " } }\n";
    }

    static String page() throws IOException {
        return Files.readString(Path.of("README.md"));
    }

    /** The blocks of a sort that a page, or a section of it, shows. */
    static List<String> blocks(String page, String sort) {
        return Pattern.compile("(?ms)^```" + sort + "\n(.*?)^```$").matcher(page).results().map(r -> r.group(1)).toList();
    }

    /** What a page has under a heading, till the next one of its rank. */
    static String section(String page, String heading) {
        Matcher found = Pattern.compile("(?ms)^## " + heading + "\n(.*?)(?=^## |\\z)").matcher(page);
        return found.find() ? found.group(1) : "";
    }

    Path folder() {
        return main;
    }

    void put(String name, String text) throws IOException {
        Path file = main.resolve(name).normalize();
        Files.createDirectories(file.getParent());
        Files.writeString(file, text);
    }

    void remove(String name) throws IOException {
        Files.delete(main.resolve(name).normalize());
    }

    /** What the commands end with; -1 if they don't end. */
    int run(String commands) throws IOException, InterruptedException {
        Path told = home.resolve("told");
        Process process = new ProcessBuilder("bash", "-e", "-c", commands).directory(main.toFile())
            .redirectErrorStream(true).redirectOutput(told.toFile()).start();
        boolean isEnded = process.waitFor(MOST_SECONDS, TimeUnit.SECONDS);
        if (!isEnded) {
            process.descendants().forEach(ProcessHandle::destroyForcibly);
            process.destroyForcibly();
        }
        output = Files.readString(told, StandardCharsets.ISO_8859_1);
        return isEnded ? process.exitValue() : -1;
    }

    String output() {
        return output;
    }

    @Override
    public void close() throws IOException {
        try (Stream<Path> all = Files.walk(home)) {
            for (Path path : all.sorted(Comparator.reverseOrder()).toList()) {
                Files.delete(path);
            }
        }
    }
}
