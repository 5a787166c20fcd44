import java.nio.file.Files;
import java.nio.file.Path;
import java.util.List;
import java.util.regex.Pattern;

/** LANGUAGE.md: what can be seen of it in the text of the program. */
public final class LanguageTest {
    private static final String[] RULED_OUT = {
        "^package\\b", "^import\\b", "->", "::", "\\bthrows?\\b", "\\btry\\b", "\\bcatch\\b", "\\bfinally\\b",
        "\\bsynchronized\\b", "\\bassert\\b", "\\bvar\\b", "\\bprotected\\b", "\\bstatic\\s*\\{", "[\\w)] \\+ \"",
        "\" \\+ ", "\\bExact\\b", "\\bSystem\\.(?!arraycopy\\()", "\\bMath\\.(?!(abs|min|max|floorMod)\\()",
        "\\bInteger\\.(?!(compare|bitCount)\\()", "\\bdouble\\b", "\\bThread\\b", "\\bRandom\\b",
    };

    public static void main(String[] args) throws Exception {
        List<String> lines = Files.readAllLines(Path.of("src/main/java/BeamKeepers.java"));
        boolean inConstructor = false;
        int methodStart = 0;
        for (int i = 0; i < lines.size(); i++) {
            String line = lines.get(i);
            String code = line.replaceAll("//.*", "").replaceAll("^\\s*/?\\*.*", "");
            for (String pattern : RULED_OUT) {
                Check.due("line " + (i + 1) + " has " + pattern, Pattern.compile(pattern).matcher(code).find() ? 1 : 0, 0);
            }
            Check.due("line " + (i + 1) + " is long", line.length() <= 110 ? 0 : 1, 0);
            if (code.matches("( {4}| {8})\\S.*\\) \\{")) {
                methodStart = i;
                inConstructor = code.matches("\\s*(public )?[A-Z]\\w*\\(.*\\) \\{");
            }
            if (code.matches("( {4}| {8})\\}")) {
                Check.due("method of line " + (methodStart + 1) + " is short", i - methodStart <= 60 ? 1 : 0, 1);
                inConstructor = false;
            }
            // Rows are made in constructors alone, or with the fields that hold them.
            boolean field = code.matches("\\s*(private )?final \\S+ \\w+ = new .*;");
            if (code.contains("new ")) {
                Check.due("line " + (i + 1) + " makes an object in a call", inConstructor || field ? 0 : 1, 0);
            }
        }
        Check.end();
    }
}
