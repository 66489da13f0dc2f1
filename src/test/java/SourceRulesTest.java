import java.io.IOException;
import java.nio.file.Files;
import java.nio.file.Path;
import java.util.List;

/** Those rules of ../shared/LANGUAGE.md that the lines of the class show. */
public final class SourceRulesTest {
    private static final Expect expect = new Expect("SourceRulesTest");
    private static final String[] FORBIDDEN = {
        "->", "::", "\" +", "+ \"", " catch ", " finally ", " try ", "synchronized", "assert ", " package ",
        "protected ", "System.out", "System.currentTimeMillis", "System.nanoTime", "Math.random", "Exact(",
        "hashCode", "toString", "String.valueOf", "String.format", "@Override public boolean equals"};

    public static void main(String[] args) throws IOException {
        List<String> lines = Files.readAllLines(Path.of("src/main/java/OrderChains.java"));
        int classes = 0;
        int methodStart = -1;
        for (int i = 0; i < lines.size(); i++) {
            String line = lines.get(i);
            int number = i + 1;
            String code = line.strip().startsWith("//") || line.strip().startsWith("/**") || line.strip().startsWith("*")
                ? "" : line;
            for (String word : FORBIDDEN) {
                expect.that("line " + number + " holds " + word, code.contains(word) ? 1 : 0, 0);
            }
            if (code.startsWith("import ")) {
                expect.that("line " + number + ": an import", code.equals("import java.util.Arrays;") ? 1 : 0, 1);
            }
            expect.that("line " + number + ": its length", line.length() > 120 ? 1 : 0, 0);
            classes += code.contains(" class ") ? 1 : 0;
            boolean opens = code.matches(" {4}( {4})?\\S.*\\) ?(throws .*)?\\{") && !code.contains(" class ");
            if (opens) {
                methodStart = number;
            }
            if (methodStart >= 0 && code.matches(" {4}( {4})?\\}")) {
                expect.that("line " + methodStart + ": a long method", number - methodStart > 60 ? 1 : 0, 0);
                methodStart = -1;
            }
        }
        expect.that("many classes", classes > 12 ? 1 : 0, 0);
        expect.finish();
    }
}
