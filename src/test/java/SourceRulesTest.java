import java.io.IOException;
import java.nio.file.Files;
import java.nio.file.Path;
import java.util.List;
import java.util.regex.Matcher;
import java.util.regex.Pattern;

/** Those rules of ../shared/LANGUAGE.md that the lines of the class show. */
public final class SourceRulesTest {
    private static final Expect expect = new Expect("SourceRulesTest");
    private static final Pattern HEADER = Pattern.compile(
        "( {8}| {4})(?! |for |if |while |switch |return |throw )[\\w\\[\\]. ]*\\w\\([\\w\\[\\], ]*\\)( throws [\\w, ]*)?( \\{)?");
    private static final Pattern CONSTRUCTOR = Pattern.compile(" +(public )?[A-Z]\\w*\\(\\) \\{");
    private static final String[] FORBIDDEN = {
        "->", "::", "\" +", "+ \"", " catch ", " finally ", " try ", "synchronized", "assert ", " package ",
        "protected ", "System.out", "System.currentTimeMillis", "System.nanoTime", "Math.random", "Exact(",
        "hashCode", "toString", "String.valueOf", "String.format", "@Override public boolean equals"};
    private static final int METHODS_AT_LEAST = 25;
    private static final int MOST_LINES = 60;
    private static final int MOST_CLASSES = 12;

    public static void main(String[] args) throws IOException {
        List<String> lines = Files.readAllLines(Path.of("src/main/java/OrderChains.java"));
        int classes = 0;
        int methods = 0;
        for (int i = 0; i < lines.size(); i++) {
            String code = codeOf(lines.get(i));
            checkLine(i + 1, code);
            classes += code.contains(" class ") ? 1 : 0;
            Matcher header = HEADER.matcher(code);
            if (header.matches()) {
                methods++;
                checkMethod(lines, i, header.group(1));
            }
        }
        expect.that("many classes", classes > MOST_CLASSES ? 1 : 0, 0);
        expect.that("methods that were looked at", methods > METHODS_AT_LEAST ? 1 : 0, 1);
        expect.finish();
    }

    private static String codeOf(String line) {
        String stripped = line.strip();
        boolean isComment = stripped.startsWith("//") || stripped.startsWith("/*") || stripped.startsWith("*");
        return isComment ? "" : line;
    }

    private static void checkLine(int number, String code) {
        for (String word : FORBIDDEN) {
            expect.that("line " + number + " holds " + word, code.contains(word) ? 1 : 0, 0);
        }
        if (code.startsWith("import ")) {
            expect.that("line " + number + ": an import", code.equals("import java.util.Arrays;") ? 1 : 0, 1);
        }
        expect.that("line " + number + ": its length", code.length() > 120 ? 1 : 0, 0);
    }

    /** A constructor throws nothing; any other method makes nothing but what it throws. */
    private static void checkMethod(List<String> lines, int first, String indent) {
        boolean isConstructor = CONSTRUCTOR.matcher(lines.get(first)).matches();
        int last = first;
        while (last < lines.size() && !lines.get(last).equals(indent + "}")) {
            String code = codeOf(lines.get(last));
            boolean throwsHere = code.contains("throw ");
            boolean makes = code.contains("new ") && !throwsHere;
            String where = "line " + (last + 1);
            expect.that(where + ": a throw in a constructor", isConstructor && throwsHere ? 1 : 0, 0);
            expect.that(where + ": a call that makes an object", !isConstructor && makes ? 1 : 0, 0);
            last++;
        }
        expect.that("line " + (first + 1) + ": a method without an end", last < lines.size() ? 1 : 0, 1);
        expect.that("line " + (first + 1) + ": a long method", last - first > MOST_LINES ? 1 : 0, 0);
    }
}
