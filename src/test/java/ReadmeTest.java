import java.io.IOException;
import java.nio.file.Files;
import java.nio.file.Path;
import java.util.List;
import java.util.stream.Collectors;
import java.util.stream.Stream;

/** What README.md says can be done is so. */
public final class ReadmeTest {
    private static final Path TESTS = Path.of("src/test/java");

    public static void main(String[] args) throws IOException {
        String readme = Files.readString(Path.of("README.md"));
        example();
        sameExample(readme);
        tests(readme);
        Due.close();
    }

    private static void example() {
        // the lines of the example stand here as they stand in README.md
        BatchCellars plant = new BatchCellars();
        int recipe = plant.recipe(1);               // product 1
        plant.stage(recipe, 0, 10, 5, 20);          // kind 0, 10 minutes of work, ageing 5 to 20
        int vessel = plant.vessel(0, 100);          // kind 0, 100 kilograms
        int batch = plant.begin(recipe, 90, vessel);
        Due.due("the product", plant.stageOf(recipe, 0, 4), 1);
        Due.due("the kind of the stage", plant.stageOf(recipe, 0, 0), 0);
        Due.due("the work", plant.stageOf(recipe, 0, 1), 10);
        Due.due("the least ageing", plant.stageOf(recipe, 0, 2), 5);
        Due.due("the greatest ageing", plant.stageOf(recipe, 0, 3), 20);
        Due.due("the kind of the vessel", plant.vesselOf(vessel, 0), 0);
        Due.due("the size of the vessel", plant.vesselOf(vessel, 1), 100);
        plant.pass(15);                             // 15 minutes go by
        Due.due("the time", plant.count(4), 15);
        int made = plant.end(batch);                // 90
        Due.due("what is made", made, 90);
        plant.undo();                               // the batch is there again
        Due.due("the batch", plant.batchOf(batch, 1), 90);
        for (char sign : "t1;e0;".toCharArray()) {
            plant.type(sign);
        }
        int commands = plant.play();                // 2
        Due.due("the commands", commands, 2);
        Due.due("the batch is ended by them", plant.count(9), 1);
    }

    private static void sameExample(String readme) throws IOException {
        String source = Files.readString(TESTS.resolve("ReadmeTest.java"));
        int start = readme.indexOf("```java\n");
        int end = readme.indexOf("```", start + 8);
        Due.due("README.md has an example", start >= 0 && end > start ? 1 : 0, 1);
        int place = 0;
        for (String line : readme.substring(start + 8, end).split("\n")) {
            int found = source.indexOf("        " + line + "\n", place);
            Due.due("README.md: " + line, found > 0 ? 1 : 0, 1);
            place = Math.max(place, found);
        }
    }

    private static void tests(String readme) throws IOException {
        List<String> names;
        try (Stream<Path> files = Files.list(TESTS)) {
            names = files.map(file -> file.getFileName().toString().replace(".java", ""))
                    .filter(name -> name.endsWith("Test")).sorted().collect(Collectors.toList());
        }
        for (String name : names) {
            Due.due(name + " in the table", readme.contains("\n| `" + name + "` | ") ? 1 : 0, 1);
        }
        long rows = readme.lines().filter(line -> line.startsWith("| `")).count();
        Due.due("tests in the table", rows, names.size());
    }
}
