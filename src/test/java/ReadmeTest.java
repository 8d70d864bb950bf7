import java.io.IOException;
import java.lang.reflect.Method;
import java.lang.reflect.Modifier;
import java.net.URL;
import java.net.URLClassLoader;
import java.nio.file.Files;
import java.nio.file.Path;
import java.util.ArrayList;
import java.util.List;
import java.util.regex.Matcher;
import java.util.regex.Pattern;
import java.util.stream.Stream;
import javax.tools.JavaCompiler;
import javax.tools.ToolProvider;

/**
 * What README.md says of how to use the class. Its examples are compiled as they stand there, so that
 * neither they nor the answers behind their calls can become untrue unseen.
 */
public final class ReadmeTest {
    private static final String NEW_OBJECT = "ProcedureCode x = new ProcedureCode();";
    /** A call, which may be kept by a name, and its answer, behind which may stand more words. */
    private static final Pattern CALL = Pattern.compile(
        "(?:int (\\w+) = )?(x\\.\\w+\\(.*\\)); +// (-?\\d+|true|false|throws \\w+)(?:: .+)?");

    /** An example's calls, with the answers that README.md tells; and the program that asks for them. */
    private static final class Example {
        final List<String> calls = new ArrayList<>();
        final List<String> told = new ArrayList<>();
        final StringBuilder program = new StringBuilder();

        void add(String line) {
            if (line.isBlank()) {
                return;
            }
            Matcher call = CALL.matcher(line);
            if (line.equals(NEW_OBJECT)) {
                program.append(line).append('\n');
            } else if (call.matches()) {
                calls.add(call.group(2));
                told.add(call.group(3));
                program.append(call.group(1) == null ? asked(call.group(2)) : kept(call.group(1), call.group(2)));
            } else {
                Due.is("the line [" + line + "] tells its call's answer", false, true);
            }
        }

        private static String kept(String name, String call) {
            return "int " + name + " = " + call + ";\nanswers.add(\"\" + " + name + ");\n";
        }

        private static String asked(String call) {
            return "try {\nanswers.add(\"\" + " + call + ");\n"
                + "} catch (RuntimeException e) {\nanswers.add(\"throws \" + e.getClass().getSimpleName());\n}\n";
        }

        String source(String name) {
            return "import java.util.*;\npublic final class " + name + " {\n"
                + "public static List<String> answers() {\nList<String> answers = new ArrayList<>();\n"
                + program + "return answers;\n}\n}\n";
        }
    }

    private static List<Example> examples(List<String> readme) {
        List<Example> found = new ArrayList<>();
        boolean inside = false;
        for (String line : readme) {
            if (line.equals("```java")) {
                inside = true;
                found.add(new Example());
            } else if (line.equals("```")) {
                inside = false;
            } else if (inside) {
                found.get(found.size() - 1).add(line);
            }
        }
        return found;
    }

    /** What the example's calls answer; nothing when it can't be compiled. */
    private static List<?> answers(Example example, Path folder, String name) throws Exception {
        Path file = folder.resolve(name + ".java");
        Files.writeString(file, example.source(name));
        JavaCompiler compiler = ToolProvider.getSystemJavaCompiler();
        int result = compiler.run(null, null, null, "--release", "17", "-d", folder.toString(),
            "-cp", System.getProperty("java.class.path"), file.toString());
        if (result != 0) {
            return List.of();
        }
        try (URLClassLoader loader = new URLClassLoader(new URL[] {folder.toUri().toURL()})) {
            return (List<?>) loader.loadClass(name).getMethod("answers").invoke(null);
        }
    }

    private static void compare(Example example, List<?> answers) {
        Due.is("an example's answers, how many", answers.size(), example.calls.size());
        for (int i = 0; i < answers.size() && i < example.calls.size(); i++) {
            Due.is(example.calls.get(i), "" + answers.get(i), example.told.get(i));
        }
    }

    private static void runExamples(List<Example> examples) throws Exception {
        Path folder = Files.createTempDirectory("readme");
        try {
            Due.sentence("README.md: the answers of its examples");
            for (int i = 0; i < examples.size(); i++) {
                compare(examples.get(i), answers(examples.get(i), folder, "Example" + i));
            }
        } finally {
            try (Stream<Path> files = Files.list(folder)) {
                for (Path file : files.toList()) {
                    Files.delete(file);
                }
            }
            Files.delete(folder);
        }
    }

    private static void everyMethodIsShown(List<Example> examples) {
        Due.sentence("README.md: its examples show every method of the face");
        for (Method m : ProcedureCode.class.getDeclaredMethods()) {
            if (Modifier.isPublic(m.getModifiers())) {
                String call = "x." + m.getName() + "(";
                boolean shown = examples.stream().flatMap(e -> e.calls.stream()).anyMatch(c -> c.startsWith(call));
                Due.is(m.getName() + " is shown", shown, true);
            }
        }
    }

    private static void everyTestIsNamed(List<String> readme) throws IOException {
        Due.sentence("README.md: how to run the tests, and which there are");
        Due.is("a line that tells the script", readme.contains("    .ci/run"), true);
        Due.is("the script can be run", Files.isExecutable(Path.of(".ci/run")), true);
        String text = String.join("\n", readme);
        try (Stream<Path> files = Files.list(Path.of("src/test/java"))) {
            for (Path file : files.toList()) {
                String name = file.getFileName().toString().replace(".java", "");
                Due.is(name + " is named", text.contains("`" + name + "`"), true);
            }
        }
    }

    public static void main(String[] args) throws Exception {
        List<String> readme = Files.readAllLines(Path.of("README.md"));
        Due.sentence("README.md: each line of its examples tells its call's answer");
        List<Example> examples = examples(readme);
        Due.is("there are examples", examples.isEmpty(), false);
        runExamples(examples);
        everyMethodIsShown(examples);
        everyTestIsNamed(readme);
        Due.end();
    }
}
