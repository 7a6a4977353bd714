import java.io.IOException;
import java.nio.file.Files;
import java.nio.file.Path;
import java.util.List;

/** What can be seen of LANGUAGE.md in the lines of the program: words that it rules out, and long methods. */
final class LanguageTest {
    private static final String[] RULED_OUT = {
        "import ", "package ", "->", "::", "synchronized", "assert ", "finally", "try ", "catch ", "goto ",
        "Exact(", "System.", "getMessage", "var ", "Thread", "Random", "Object", "equals(", "hashCode", "toString",
        "float ", "NaN", "\" +", "+ \"", "static {", "sealed", "yield ", "while (true)", "for (;;)",
    };
    private static final int LONGEST_METHOD = 60;
    private static final Check check = new Check();

    public static void main(String[] args) throws IOException {
        List<String> lines = Files.readAllLines(Path.of("src/main/java/RopeTackle.java"));
        int begun = 0;
        for (int i = 0; i < lines.size(); i++) {
            String line = lines.get(i);
            String code = line.strip();
            boolean comment = code.startsWith("/**") || code.startsWith("*") || code.startsWith("//");
            for (String word : RULED_OUT) {
                check.holds("line " + (i + 1) + " without '" + word + "'", comment || !code.contains(word));
            }
            check.holds("line " + (i + 1) + " in ASCII", line.chars().allMatch(sign -> sign < 127));
            if (code.endsWith("{") && code.contains(") ") && !code.matches("(if|for|switch|while|} else).*")) {
                begun = i;
            }
            check.holds("line " + (i + 1) + " in a short method", code.isEmpty() || i - begun <= LONGEST_METHOD
                || !line.startsWith("        "));
        }
        check.end();
    }
}
