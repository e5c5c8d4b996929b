import java.io.IOException;
import java.lang.reflect.InvocationTargetException;
import java.net.URL;
import java.net.URLClassLoader;
import java.nio.file.Files;
import java.nio.file.Path;
import java.util.ArrayList;
import java.util.Comparator;
import java.util.List;
import java.util.Map;
import java.util.TreeMap;
import java.util.regex.Matcher;
import java.util.regex.Pattern;
import java.util.stream.Stream;
import javax.tools.ToolProvider;

/** What README.md shows is so: its Java is compiled and run as it stands there, its tables are held against the class. */
public final class ReadmeTest {
    private static final Path README = Path.of("README.md");
    private static final Pattern SHOWN = Pattern.compile("((?:x\\.|tell\\(x, ).*\\));\\s+// (-?\\d+|[A-Z]+): .+");
    private static final Pattern ASKS = Pattern.compile("(x\\.|tell\\().*");
    private static final Pattern REFUSAL = Pattern.compile("\\| `([A-Z]+)` \\| (-\\d+) \\| .+ \\|");
    private static final Pattern CALL = Pattern.compile("\\| `(\\w+)\\((.*)\\)` \\| .+ \\|");
    private static final Pattern TEST = Pattern.compile("`(\\w+Test)`");
    private static final Map<String, Integer> CONSTANTS = new TreeMap<>(Map.of(
        "NONE", LeftQuills.NONE, "UNKNOWN", LeftQuills.UNKNOWN, "OUTSIDE", LeftQuills.OUTSIDE, "NOT", LeftQuills.NOT, "FULL", LeftQuills.FULL));
    private static final Due DUE = new Due();

    /** A call of the page and the answer that is written behind it. */
    private record Row(String call, int answer) {
    }

    public static void main(String[] args) throws IOException, ReflectiveOperationException {
        List<String> lines = Files.readAllLines(README);
        examples(lines);
        refusals(lines);
        calls(lines);
        tests(lines);
        DUE.end();
    }

    // ---- the Java that is shown

    private static void examples(List<String> lines) throws IOException, ReflectiveOperationException {
        List<Row> shown = new ArrayList<>();
        StringBuilder members = new StringBuilder();
        StringBuilder body = new StringBuilder();
        for (List<String> block : blocks(lines, "```java")) {
            boolean isMember = !block.isEmpty() && block.get(0).startsWith("static ");
            for (String line : block) {
                (isMember ? members : body).append(isMember ? line : asked(line, shown)).append('\n');
            }
        }
        DUE.is("README.md makes an object", body.indexOf("LeftQuills x = new LeftQuills();") >= 0 ? 1 : 0, 1);
        DUE.is("README.md tells an office", members.indexOf("x.feed(") >= 0 && members.indexOf("x.office()") >= 0 ? 1 : 0, 1);
        for (String refusal : List.of("UNKNOWN", "OUTSIDE", "NOT", "FULL")) {
            int number = CONSTANTS.get(refusal);
            DUE.is("README.md shows " + refusal, shown.stream().anyMatch(s -> s.answer() == number) ? 1 : 0, 1);
        }
        List<Integer> answers = run(members.toString(), body.toString());
        DUE.is("calls that README.md shows", answers.size(), shown.size());
        for (int i = 0; i < Math.min(answers.size(), shown.size()); i++) {
            DUE.is("README.md: " + shown.get(i).call(), answers.get(i), shown.get(i).answer());
        }
    }

    /** The lines between the fence and the next one, block by block. */
    private static List<List<String>> blocks(List<String> lines, String fence) {
        List<List<String>> blocks = new ArrayList<>();
        boolean isIn = false;
        for (String line : lines) {
            if (!isIn && line.equals(fence)) {
                isIn = true;
                blocks.add(new ArrayList<>());
            } else if (line.startsWith("```")) {
                isIn = false;
            } else if (isIn) {
                blocks.get(blocks.size() - 1).add(line);
            }
        }
        return blocks;
    }

    /** The line as it is, but for its answer, which is written down. */
    private static String asked(String line, List<Row> shown) {
        Matcher matcher = SHOWN.matcher(line);
        if (!matcher.matches()) {
            DUE.is("README.md has no answer behind " + line, ASKS.matcher(line).matches() ? 1 : 0, 0);
            return line;
        }
        String answer = matcher.group(2);
        boolean isNumber = !Character.isLetter(answer.charAt(0));
        DUE.is("README.md: a number or a constant: " + answer, isNumber || CONSTANTS.containsKey(answer) ? 1 : 0, 1);
        shown.add(new Row(matcher.group(1), isNumber ? Integer.parseInt(answer) : CONSTANTS.getOrDefault(answer, 0)));
        return "answers.add(" + matcher.group(1) + ");";
    }

    private static List<Integer> run(String members, String body) throws IOException, ReflectiveOperationException {
        String source = "public final class Page {\n" + members
            + "public static void run(java.util.List<Integer> answers) {\n" + body + "}\n}\n";
        Path directory = Files.createTempDirectory("readme");
        try {
            Path file = Files.writeString(directory.resolve("Page.java"), source);
            int failed = ToolProvider.getSystemJavaCompiler().run(null, null, null,
                "-d", directory.toString(), "-cp", System.getProperty("java.class.path"), file.toString());
            DUE.is("the Java of README.md compiles", failed, 0);
            List<Integer> answers = new ArrayList<>();
            if (failed == 0) {
                runPage(directory, answers);
            }
            return answers;
        } finally {
            remove(directory);
        }
    }

    private static void runPage(Path directory, List<Integer> answers) throws IOException, ReflectiveOperationException {
        try (URLClassLoader loader = new URLClassLoader(new URL[] {directory.toUri().toURL()}, ReadmeTest.class.getClassLoader())) {
            loader.loadClass("Page").getMethod("run", List.class).invoke(null, answers);
        } catch (InvocationTargetException thrown) {
            DUE.is("README.md throws " + thrown.getCause(), 1, 0);
        }
    }

    private static void remove(Path directory) throws IOException {
        try (Stream<Path> paths = Files.walk(directory)) {
            for (Path path : paths.sorted(Comparator.reverseOrder()).toList()) {
                Files.delete(path);
            }
        }
    }

    // ---- its tables

    private static void refusals(List<String> lines) {
        List<String> inOrder = new ArrayList<>();
        for (String line : lines) {
            Matcher matcher = REFUSAL.matcher(line);
            if (matcher.matches()) {
                inOrder.add(matcher.group(1));
                DUE.is("README.md: the number of " + matcher.group(1), Integer.parseInt(matcher.group(2)), CONSTANTS.getOrDefault(matcher.group(1), 0));
            }
        }
        DUE.same("README.md: refusals in their order", inOrder, List.of("UNKNOWN", "OUTSIDE", "NOT", "FULL"));
    }

    private static void calls(List<String> lines) {
        Map<String, Integer> parameters = new TreeMap<>();
        for (String line : lines) {
            Matcher matcher = CALL.matcher(line);
            if (matcher.matches()) {
                String between = matcher.group(2);
                parameters.put(matcher.group(1), between.isEmpty() ? 0 : between.split(", ").length);
            }
        }
        DUE.same("README.md: calls and their parameters", List.of(parameters.toString()), List.of(FaceTest.dueMethods().toString()));
    }

    private static void tests(List<String> lines) throws IOException {
        List<String> named = new ArrayList<>();
        for (String line : lines) {
            Matcher matcher = TEST.matcher(line);
            while (matcher.find()) {
                named.add(matcher.group(1));
            }
        }
        try (Stream<Path> files = Files.list(Path.of("src/test/java"))) {
            List<String> there = files.map(file -> file.getFileName().toString()).filter(name -> name.endsWith("Test.java"))
                .map(name -> name.substring(0, name.length() - ".java".length())).sorted().toList();
            DUE.same("README.md: tests that there are", named.stream().sorted().toList(), there);
        }
        DUE.same("README.md: the command that runs them", List.of(blocks(lines, "```sh").toString()), List.of("[[.ci/run]]"));
        DUE.is(".ci/run can be run", Files.isExecutable(Path.of(".ci/run")) ? 1 : 0, 1);
    }
}
