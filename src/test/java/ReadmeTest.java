import java.io.IOException;
import java.lang.reflect.InvocationTargetException;
import java.lang.reflect.Method;
import java.lang.reflect.Modifier;
import java.nio.file.Files;
import java.nio.file.Path;
import java.util.ArrayList;
import java.util.Comparator;
import java.util.List;
import java.util.Set;
import java.util.TreeSet;
import java.util.regex.Matcher;
import java.util.regex.Pattern;
import java.util.stream.Stream;

/** README.md: what it says of the calls, of their answers and of the tests. */
public final class ReadmeTest {
    private static final Pattern CALL = Pattern.compile("game\\.(\\w+)\\(([^)]*)\\);\\s*// (-?[\\d.]+|[A-Z_]+): .+");
    private static final Pattern TYPED = Pattern.compile("for \\(char sign : \"(.*)\"\\.toCharArray\\(\\)\\) \\{");
    private static final Pattern ROW = Pattern.compile("\\| `(\\w+)\\(([^)]*)\\)` \\|.*");
    private static final Pattern PART = Pattern.compile("- `(.*)`: .*");
    private static final Pattern CONSTANT = Pattern.compile("`([A-Z_]+)`\\s\\((-\\d)");
    private static final Pattern TEST = Pattern.compile("\\| `(\\w+Test)` \\|.*");

    public static void main(String[] args) throws Exception {
        List<String> lines = Files.readAllLines(Path.of("README.md"));
        example(block(lines, "```java"));
        partsOfTexts(lines);
        constants(String.join(" ", lines));
        tableOfCalls(lines);
        tableOfTests(lines);
        commands(block(lines, "```"));
        Check.end();
    }

    /** The lines of all blocks that begin with the fence. */
    private static List<String> block(List<String> lines, String fence) {
        List<String> found = new ArrayList<>();
        boolean inside = false;
        boolean wanted = false;
        for (String line : lines) {
            if (line.startsWith("```")) {
                inside = !inside;
                wanted = inside && line.equals(fence);
            } else if (wanted) {
                found.add(line);
            }
        }
        return found;
    }

    // Each call of the example answers what the comment behind it says.
    private static void example(List<String> lines) throws Exception {
        BeamKeepers game = null;
        int calls = 0;
        for (String line : lines) {
            Matcher call = CALL.matcher(line);
            Matcher typed = TYPED.matcher(line);
            if (call.matches()) {
                calls++;
                Check.due(line, answer(game, call.group(1), call.group(2)), due(call.group(3)));
            } else if (typed.matches()) {
                Check.write(game, typed.group(1));
            } else if (line.equals("BeamKeepers game = new BeamKeepers();")) {
                game = new BeamKeepers();
            } else {
                boolean known = line.strip().equals("game.type(sign);") || line.equals("}");
                Check.due("a line without an answer: " + line, known ? 1 : 0, 1);
            }
        }
        Check.due("calls in the example", calls > 10 ? 1 : 0, 1);
    }

    private static double answer(BeamKeepers game, String name, String values)
            throws IllegalAccessException, InvocationTargetException {
        String[] texts = values.isEmpty() ? new String[0] : values.split(", ");
        Object[] numbers = new Object[texts.length];
        for (int i = 0; i < texts.length; i++) {
            numbers[i] = Integer.valueOf(texts[i]);
        }
        return ((Number) face(name).invoke(game, numbers)).doubleValue();
    }

    private static Method face(String name) {
        for (Method method : BeamKeepers.class.getDeclaredMethods()) {
            if (Modifier.isPublic(method.getModifiers()) && method.getName().equals(name)) {
                return method;
            }
        }
        throw new IllegalArgumentException("no call " + name);
    }

    private static double due(String text) throws Exception {
        boolean constant = Character.isLetter(text.charAt(0));
        return constant ? BeamKeepers.class.getField(text).getInt(null) : Double.parseDouble(text);
    }

    // Each part of a text that is told is a right one.
    private static void partsOfTexts(List<String> lines) {
        int parts = 0;
        for (String line : lines) {
            Matcher part = PART.matcher(line);
            if (part.matches()) {
                parts++;
                BeamKeepers game = new BeamKeepers();
                Check.write(game, part.group(1));
                Check.due(line, game.doAll(), 1);
            }
        }
        Check.due("kinds of parts", parts, 4);
    }

    private static void constants(String text) throws Exception {
        Set<String> told = new TreeSet<>();
        Matcher constant = CONSTANT.matcher(text);
        while (constant.find()) {
            told.add(constant.group(1));
            Check.due(constant.group(), Integer.parseInt(constant.group(2)), due(constant.group(1)));
        }
        Check.due("constants that are told: " + told, told.size(), 5);
    }

    // There is a row for each call, with as many arguments as it has.
    private static void tableOfCalls(List<String> lines) {
        Set<String> told = new TreeSet<>();
        for (String line : lines) {
            Matcher row = ROW.matcher(line);
            if (row.matches()) {
                int values = row.group(2).isEmpty() ? 0 : row.group(2).split(", ").length;
                Check.due(row.group(1) + " is told once", told.add(row.group(1)) ? 1 : 0, 1);
                Check.due("arguments of " + row.group(1), values, face(row.group(1)).getParameterCount());
            }
        }
        for (Method method : BeamKeepers.class.getDeclaredMethods()) {
            if (Modifier.isPublic(method.getModifiers())) {
                Check.due("a row for " + method.getName(), told.contains(method.getName()) ? 1 : 0, 1);
            }
        }
    }

    // The tests that are told are those that there are.
    private static void tableOfTests(List<String> lines) throws IOException {
        Set<String> told = new TreeSet<>();
        for (String line : lines) {
            Matcher row = TEST.matcher(line);
            if (row.matches()) {
                told.add(row.group(1) + ".java");
            }
        }
        Set<String> there = new TreeSet<>();
        try (Stream<Path> files = Files.list(Path.of("src/test/java"))) {
            files.map(file -> file.getFileName().toString()).filter(name -> name.endsWith("Test.java")).forEach(there::add);
        }
        Check.due("tests that are told " + told + " and that there are " + there, told.equals(there) ? 1 : 0, 1);
    }

    // The commands run what they should; .ci/run, which runs this test, is not run by it again.
    private static void commands(List<String> lines) throws Exception {
        Check.due(".ci/run is told", lines.contains(".ci/run") ? 1 : 0, 1);
        Check.due(".ci/run can be run", Files.isExecutable(Path.of(".ci/run")) ? 1 : 0, 1);
        Check.due("commands", lines.size(), 3);
        for (String line : lines) {
            if (!line.equals(".ci/run")) {
                Path build = Files.createTempDirectory("readme");
                String command = line.replace(" build", " " + build);
                Process process = new ProcessBuilder("bash", "-c", command).redirectErrorStream(true).start();
                String printed = new String(process.getInputStream().readAllBytes());
                Check.due(line + " printed " + printed, process.waitFor(), 0);
                Check.due(line + " ran a test", printed.contains("answers") ? 1 : 0, 1);
                delete(build);
            }
        }
    }

    private static void delete(Path directory) throws IOException {
        try (Stream<Path> files = Files.walk(directory)) {
            for (Path file : files.sorted(Comparator.reverseOrder()).toList()) {
                Files.delete(file);
            }
        }
    }
}
