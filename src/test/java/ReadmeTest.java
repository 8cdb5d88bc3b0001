import java.io.IOException;
import java.lang.reflect.Method;
import java.lang.reflect.Modifier;
import java.net.URL;
import java.net.URLClassLoader;
import java.nio.file.Files;
import java.nio.file.Path;
import java.util.ArrayList;
import java.util.List;
import java.util.regex.Matcher;
import java.util.regex.Pattern;
import java.util.stream.Stream;
import javax.tools.ToolProvider;

/**
 * The calls that README.md shows, with the answers that it says they give. All its Java stands in one method, line by
 * line, is compiled as it is and run; a line with an answer behind // leaves what it really answered in a list.
 */
public final class ReadmeTest {
    private static final Pattern CALL = Pattern.compile("\\s*(\\w+\\.(\\w+)\\(.*?\\));\\s*(?://\\s*(.*))?");
    private static final Pattern ANSWER = Pattern.compile("(-?\\d+|true|false|throws \\w+)(?![\\w.]).*");
    private static final String NAME = "ReadmeCalls";

    private static final Checks checks = new Checks();
    private static final StringBuilder source = new StringBuilder();
    private static final List<String> calls = new ArrayList<>();
    private static final List<String> dues = new ArrayList<>();

    public static void main(String[] args) throws Exception {
        List<String> lines = Files.readAllLines(Path.of(args.length > 0 ? args[0] : "README.md"));
        source.append("public final class ").append(NAME)
                .append(" {\npublic static void run(java.util.List<String> got) {\n");
        readJava(lines);
        source.append("}\n}\n");
        List<String> got = answers();
        checks.same("answers", got.size(), dues.size());
        for (int i = 0; i < got.size() && i < dues.size(); i++) {
            checks.same("README.md: " + calls.get(i), got.get(i), dues.get(i));
        }
        eachMethodIsShown();
        eachTestIsNamed(lines);
        checks.done("ReadmeTest");
    }

    private static void readJava(List<String> lines) {
        boolean java = false;
        for (String line : lines) {
            if (line.startsWith("```")) {
                java = line.equals("```java");
            } else if (java) {
                readLine(line);
            }
        }
    }

    private static void readLine(String line) {
        Matcher call = CALL.matcher(line);
        if (!call.matches() || line.contains("new StepMachines")) {
            source.append(line).append('\n');
            return;
        }
        String remark = call.group(3) == null ? "" : call.group(3);
        Matcher answer = ANSWER.matcher(remark);
        if (answer.matches()) {
            write(call.group(1), answer.group(1));
        } else {
            checks.same("README.md: an answer is said for " + call.group(1), tells(call.group(2)), false);
            source.append(line).append('\n');
        }
    }

    private static void write(String call, String due) {
        calls.add(call);
        dues.add(due);
        if (due.startsWith("throws ")) {
            source.append("try { ").append(call).append("; got.add(\"nothing\"); } catch (RuntimeException e) { ")
                    .append("got.add(\"throws \" + e.getClass().getSimpleName()); }\n");
        } else {
            source.append("got.add(String.valueOf(").append(call).append("));\n");
        }
    }

    private static boolean tells(String name) {
        for (Method method : StepMachines.class.getMethods()) {
            if (method.getName().equals(name)) {
                return method.getReturnType() != void.class;
            }
        }
        return false;
    }

    private static List<String> answers() throws IOException, ReflectiveOperationException {
        Path directory = Files.createTempDirectory("readme");
        Path file = directory.resolve(NAME + ".java");
        Files.writeString(file, source);
        int failed = ToolProvider.getSystemJavaCompiler().run(null, null, null, "-cp",
                System.getProperty("java.class.path"), "-d", directory.toString(), file.toString());
        checks.same("README.md: its Java compiles", failed, 0);
        List<String> got = new ArrayList<>();
        if (failed == 0) {
            try (URLClassLoader loader = new URLClassLoader(new URL[] {directory.toUri().toURL()})) {
                loader.loadClass(NAME).getMethod("run", List.class).invoke(null, got);
            }
        }
        Files.deleteIfExists(directory.resolve(NAME + ".class"));
        Files.delete(file);
        Files.delete(directory);
        return got;
    }

    /** Each method of the face, with an answer if it has one. */
    private static void eachMethodIsShown() {
        String shown = source.toString();
        for (Method method : StepMachines.class.getDeclaredMethods()) {
            if (Modifier.isPublic(method.getModifiers())) {
                String call = (tells(method.getName()) ? "valueOf(x." : "x.") + method.getName() + "(";
                checks.same("README.md shows " + method.getName(), shown.contains(call), true);
            }
        }
    }

    private static void eachTestIsNamed(List<String> lines) throws IOException {
        try (Stream<Path> files = Files.list(Path.of("src/test/java"))) {
            for (Path file : files.filter(path -> path.toString().endsWith("Test.java")).toList()) {
                String name = "`" + file.getFileName().toString().replace(".java", "") + "`";
                checks.same("README.md names " + name, lines.stream().anyMatch(line -> line.contains(name)), true);
            }
        }
    }
}
