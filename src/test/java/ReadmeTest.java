import java.io.IOException;
import java.lang.reflect.Method;
import java.lang.reflect.Modifier;
import java.net.URL;
import java.net.URLClassLoader;
import java.nio.file.Files;
import java.nio.file.Path;
import java.util.ArrayList;
import java.util.Comparator;
import java.util.List;
import java.util.Map;
import java.util.regex.Matcher;
import java.util.regex.Pattern;
import java.util.stream.Stream;
import javax.tools.JavaCompiler;
import javax.tools.ToolProvider;

/**
 * README.md says what is so: each of its Java examples is compiled as it stands, and each call in it must give the
 * answer behind it; the numbers of the constants are right; no call of the face is left out.
 */
public final class ReadmeTest {
    private static final Pattern CALL = Pattern.compile("(x\\.(\\w+)\\([^()]*\\));\\s*// (-?\\d+|[A-Z]+)(:.*)?");
    private static final Pattern MADE = Pattern.compile("RemoteCells x = new RemoteCells\\(\\);");
    private static final Pattern LETTERS =
            Pattern.compile("for \\(char letter : \"[^\"]*\"\\.toCharArray\\(\\)\\) x\\.write\\(letter\\);");
    private static final Pattern CONSTANT = Pattern.compile("\\| `([A-Z]+)` \\| (-?\\d+) \\|.*");
    private static final Pattern CALL_IN_PROSE = Pattern.compile(".*`(x\\.)?\\w+\\([^)`]*\\d[^)`]*\\).*");
    private static final Map<String, Integer> CONSTANTS = Map.of(
            "NONE", RemoteCells.NONE, "UNKNOWN", RemoteCells.UNKNOWN, "OUTSIDE", RemoteCells.OUTSIDE,
            "NOT", RemoteCells.NOT, "FULL", RemoteCells.FULL);

    /** What a call of an example is due to answer, and where it stands. */
    private record Due(int line, String call, int answer) { }

    private final Check check = new Check();
    private final List<Due> dues = new ArrayList<>();
    private final StringBuilder code = new StringBuilder();

    public static void main(String[] args) throws IOException, ReflectiveOperationException {
        if (args.length < 2) {
            System.out.println("usage: ReadmeTest src/main/java/RemoteCells.java README.md");
            System.exit(1);
        }
        List<String> lines = Files.readAllLines(Path.of(args[1]));
        ReadmeTest test = new ReadmeTest();
        test.readExamples(lines);
        test.compareAnswers();
        test.compareConstants(lines);
        test.findCalls(lines);
        test.check.finish();
    }

    /** The Java examples become one method; an example that makes a new object has a block of its own. */
    private void readExamples(List<String> lines) {
        String language = null;
        for (int i = 0; i < lines.size(); i++) {
            String line = lines.get(i);
            if (line.startsWith("```")) {
                if ("java".equals(language)) {
                    code.append("        }\n");
                }
                language = language == null ? line.substring(3) : null;
                if ("java".equals(language)) {
                    code.append("        {\n");
                }
            } else if ("java".equals(language)) {
                readLine(i + 1, line);
            } else if (language == null) {
                check.isTrue("line " + (i + 1) + " shows no call outside of an example",
                        !CALL_IN_PROSE.matcher(line).matches());
            }
        }
        check.isTrue("README.md shows calls", !dues.isEmpty());
    }

    private void readLine(int number, String line) {
        Matcher call = CALL.matcher(line);
        if (call.matches()) {
            String answer = call.group(3);
            Integer due = CONSTANTS.get(answer);
            check.isTrue("line " + number + " says a known answer", due != null || answer.matches("-?\\d+"));
            dues.add(new Due(number, call.group(1), due != null ? due : Integer.parseInt(answer)));
            code.append("            got.add(").append(call.group(1)).append(");\n");
            return;
        }
        code.append("            ").append(line).append('\n');
        check.isTrue("line " + number + " is a call with its answer, makes an object, or writes letters",
                MADE.matcher(line).matches() || LETTERS.matcher(line).matches());
    }

    private void compareAnswers() throws IOException, ReflectiveOperationException {
        List<Integer> got = new ArrayList<>();
        Path folder = Files.createTempDirectory("readme");
        try {
            Path source = folder.resolve("ReadmeExamples.java");
            Files.writeString(source, "public final class ReadmeExamples {\n"
                    + "    public static void run(java.util.List<Integer> got) {\n" + code + "    }\n}\n");
            JavaCompiler compiler = ToolProvider.getSystemJavaCompiler();
            int failed = compiler.run(null, System.out, System.out,
                    "-cp", System.getProperty("java.class.path"), "-d", folder.toString(), source.toString());
            check.is("javac over the examples", failed, 0);
            if (failed == 0) {
                runExamples(folder, got);
            }
        } finally {
            remove(folder);
        }
        check.is("calls made", got.size(), dues.size());
        for (int i = 0; i < Math.min(got.size(), dues.size()); i++) {
            Due due = dues.get(i);
            check.is("README.md, line " + due.line + ": " + due.call, got.get(i), due.answer);
        }
    }

    private static void runExamples(Path folder, List<Integer> got) throws IOException, ReflectiveOperationException {
        try (URLClassLoader loader = new URLClassLoader(new URL[] {folder.toUri().toURL()})) {
            loader.loadClass("ReadmeExamples").getMethod("run", List.class).invoke(null, got);
        }
    }

    private static void remove(Path folder) throws IOException {
        try (Stream<Path> inside = Files.walk(folder)) {
            for (Path path : inside.sorted(Comparator.reverseOrder()).toList()) {
                Files.delete(path);
            }
        }
    }

    private void compareConstants(List<String> lines) {
        int found = 0;
        for (String line : lines) {
            Matcher constant = CONSTANT.matcher(line);
            if (constant.matches()) {
                found++;
                Integer due = CONSTANTS.get(constant.group(1));
                check.isTrue(constant.group(1) + " is a constant", due != null);
                if (due != null) {
                    check.is("README.md: " + constant.group(1), Integer.parseInt(constant.group(2)), due);
                }
            }
        }
        check.is("constants in README.md", found, CONSTANTS.size());
    }

    private void findCalls(List<String> lines) {
        String whole = String.join("\n", lines);
        for (Method method : RemoteCells.class.getMethods()) {
            if (method.getDeclaringClass() == RemoteCells.class && !Modifier.isStatic(method.getModifiers())) {
                check.isTrue("README.md names " + method.getName(), whole.contains("`" + method.getName() + "`"));
            }
        }
        check.isTrue("README.md says for how many calls an object is used", whole.contains("512 calls"));
    }
}
