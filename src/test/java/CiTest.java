import java.util.ArrayList;
import java.util.List;
import java.util.concurrent.ExecutorService;
import java.util.concurrent.Executors;
import java.util.concurrent.Future;

/** The way that README.md tells to run the tests works, and fails where a test fails. */
public final class CiTest {
    private static final Check CHECK = new Check("ci");
    private static final String ENDS = "System.exit(1);", THROWS = "throw new IllegalStateException();";
    private static final String BROKEN = "it is no Java";

    /** What is put into a copy of the project, or taken out of it (no text), and what comes of that. */
    private record Case(String what, String file, String text, int due, String told) { }

    private record Seen(int end, String output) { }

    private static final List<Case> CASES = List.of(
        new Case("all pass", Project.OWN, Project.test("OneTest", ""), 0, "2 passed, 0 failed"),
        new Case("one more test", "src/test/java/TwoTest.java", Project.test("TwoTest", ""), 0, "3 passed, 0 failed"),
        new Case("one more shared test", "../shared/tests/Other.java", Project.test("Other", ""), 0,
            "passed: shared/Other"),
        new Case("a test ends with 1", "src/test/java/TwoTest.java", Project.test("TwoTest", ENDS), 1,
            "FAILED: own/TwoTest"),
        new Case("the tests behind it run", "src/test/java/ATest.java", Project.test("ATest", ENDS), 1,
            "2 passed, 1 failed"),
        new Case("a test throws", Project.OWN, Project.test("OneTest", THROWS), 1, "FAILED: own/OneTest"),
        new Case("a test does not compile", Project.OWN, BROKEN, 1, "do not compile"),
        new Case("a shared test ends with 1", Project.SHARED, Project.test("SharedRuns", ENDS), 1,
            "FAILED: shared/SharedRuns"),
        new Case("a shared test does not compile", Project.SHARED, BROKEN, 1, "FAILED: shared/SharedRuns"),
        new Case("no shared test", Project.SHARED, null, 1, "no tests under ../shared/tests"),
        new Case("no test", Project.OWN, null, 1, "do not compile"),
        new Case("the class does not compile", "src/main/java/LampHouse.java", BROKEN, 1,
            "LampHouse does not compile"));

    private static Seen see(Case asked, String command) throws Exception {
        try (Project project = new Project()) {
            if (asked.text() == null) {
                project.remove(asked.file());
            } else {
                project.put(asked.file(), asked.text());
            }
            return new Seen(project.run(command), project.output());
        }
    }

    private static Seen seeFromElsewhere(String command) throws Exception {
        try (Project project = new Project()) {
            String there = command.replace(".ci/run", "'" + project.folder() + "/.ci/run'");
            return new Seen(project.run("cd /\n" + there), project.output());
        }
    }

    private static void due(String what, Seen seen, int end, String told) {
        CHECK.due(what + ": the end of .ci/run", seen.end(), end);
        boolean isTold = seen.output().contains(told);
        CHECK.due(what + ": .ci/run tells " + told, isTold ? 1 : 0, 1);
        if (!isTold || seen.end() != end) {
            System.out.println(seen.output());
        }
    }

    public static void main(String[] args) throws Exception {
        List<String> commands = Project.blocks(Project.section(Project.page(), "Tests"), "sh");
        CHECK.due("commands under Tests in README.md", commands.size(), 1);
        String command = commands.get(0);
        // Each case compiles the class anew, so they go side by side.
        ExecutorService hands = Executors.newFixedThreadPool(4);
        Future<Seen> elsewhere = hands.submit(() -> seeFromElsewhere(command));
        List<Future<Seen>> seen = new ArrayList<>();
        for (Case asked : CASES) {
            seen.add(hands.submit(() -> see(asked, command)));
        }
        due("from another folder", elsewhere.get(), 0, "2 passed, 0 failed");
        for (int i = 0; i < CASES.size(); i++) {
            due(CASES.get(i).what(), seen.get(i).get(), CASES.get(i).due(), CASES.get(i).told());
        }
        hands.shutdown();
        CHECK.end();
    }
}
