import java.io.IOException;
import java.nio.file.Files;
import java.nio.file.Path;
import java.util.List;
import java.util.stream.Collectors;
import java.util.stream.Stream;

/** README.md: what its example answers, and that it names each test and each promise. */
public final class ReadmeTest {
    private static final Check check = new Check("ReadmeTest");
    private static List<String> lines;

    public static void main(String[] args) throws IOException {
        lines = Files.readAllLines(Path.of("README.md"));
        example();
        testsAreNamed();
        check.end();
    }

    /** The calls of the example, in their order; each one has to stand in README.md as it stands here. */
    private static void example() {
        RoadPaint road = new RoadPaint();
        told("road.arrow(0, 4, 0);", "// lane 0, mile 4, up: 1 arrow on the road", road.arrow(0, 4, 0), 1);
        told("road.whyNot(0, 6, 1);", "// 1: it would meet that arrow head on", road.whyNot(0, 6, 1), 1);
        told("road.word(1, 4, 2);", "// BUS on lane 1: 1 word on the road", road.word(1, 4, 2), 1);
        told("road.readableFor(1, 4);", "// 15 days", road.readableFor(1, 4), 15);
        told("road.pass(10);", "// ten days go by: 0 signs are gone", road.pass(10), 0);
        told("road.bestNight();", "// 68: 16 * the mile at which to begin + the mile at which to end",
                road.bestNight(), 68);
        told("road.night(4, 4);", "// repaints the 2 signs that are weaker than 60", road.night(4, 4), 2);
        int[] ahead = Roads.picture(road);
        Check.write(road, "w0a1;d;nap");
        told("road.carryOut();", "// 3 orders", road.carryOut(), 3);
        told("road.undo();", "// as it was ahead of carryOut(); 4 more states can be brought back", road.undo(), 4);
        check.allDue("the road after undo()", Roads.picture(road), ahead);
        check.isTrue("the text of the example", lines.stream().anyMatch(line -> line.contains("\"w0a1;d;nap\"")));
        long calls = lines.stream().filter(line -> line.startsWith("road.")).count();
        check.due("calls of the example", calls, 9);
    }

    private static void told(String call, String comment, int got, int want) {
        check.isTrue("README.md tells " + call + " " + comment,
                lines.stream().anyMatch(line -> line.startsWith(call) && line.substring(call.length()).strip().equals(comment)));
        check.due(call, got, want);
    }

    private static void testsAreNamed() throws IOException {
        List<String> tests;
        try (Stream<Path> files = Files.list(Path.of("src/test/java"))) {
            tests = files.map(file -> file.getFileName().toString()).filter(name -> name.endsWith("Test.java"))
                    .map(name -> name.substring(0, name.length() - 5)).collect(Collectors.toList());
        }
        check.isTrue("there are tests", !tests.isEmpty());
        for (String test : tests) {
            check.due("lines on " + test, lines.stream().filter(line -> line.startsWith("| `" + test + "` |")).count(), 1);
        }
        long named = lines.stream().filter(line -> line.matches("\\| `[A-Za-z]+Test` \\|.*")).count();
        check.due("tests that README.md names", named, tests.size());
    }
}
