import java.io.IOException;
import java.nio.file.Files;
import java.nio.file.Path;
import java.util.HashSet;
import java.util.List;
import java.util.Set;

/** The examples of README.md, line by line, with the answers that they tell. */
public final class ReadmeTest {
    private static final Expect expect = new Expect("ReadmeTest");
    private static final int EXAMPLE_LINES = 20;

    public static void main(String[] args) throws IOException {
        examples();
        everyLineIsTriedHere();
        expect.finish();
    }

    private static void examples() {
        OrderChains x = new OrderChains();
        x.order(0, 3, 7, 40, 5);
        x.start(0, 0);
        int ticks = x.ends(0);
        expect.that("ticks", ticks, 7);
        x.run(99);
        expect.that("ticks that went by", x.about(0), 7);
        int value = x.cell(44, 0);
        expect.that("value", value, 7);
        x.undo();
        expect.that("ticks behind undo", x.about(0), 0);

        for (char c : "E030740050106s000".toCharArray()) {
            x.append(c);
        }
        if (x.errorPosition() == OrderChains.NONE) {
            x.load();
        }
        expect.that("busy channels of the text", x.about(1), 1);

        int then = x.later(40, 2);
        expect.that("then", then, 7);
        int edit = x.firstEdit();
        expect.that("edit", edit, OrderChains.NONE);
        int failed = x.runScript(3, 20007_70002_64007L);
        expect.that("failed", failed, OrderChains.NONE);
        int result = x.simulate(1, 50);
        expect.that("result", result, resultOfRounds());

        x.save(1);
        x.run(3);
        x.restore(1);
        expect.that("ticks behind restore", x.about(0), 0);
        expect.fails("undo behind restore", Engines.STATE, x::undo);
    }

    private static int resultOfRounds() {
        PlainModel plain = new PlainModel();
        plain.order(0, 3, 7, 40, 5);
        plain.start(0, 0);
        return plain.simulate(1, 50);
    }

    private static void everyLineIsTriedHere() throws IOException {
        Set<String> tried = new HashSet<>();
        for (String line : Files.readAllLines(Path.of("src/test/java/ReadmeTest.java"))) {
            tried.add(line.strip());
        }
        boolean inExample = false;
        int found = 0;
        List<String> readme = Files.readAllLines(Path.of("README.md"));
        for (String line : readme) {
            if (line.startsWith("```")) {
                inExample = line.equals("```java");
            } else if (inExample) {
                String code = line.replaceFirst(" *//.*", "").strip();
                expect.that("tried here: " + code, tried.contains(code) ? 1 : 0, 1);
                found++;
            }
        }
        expect.that("lines of examples", found, EXAMPLE_LINES);
    }
}
