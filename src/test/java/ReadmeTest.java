import java.io.IOException;
import java.lang.reflect.Method;
import java.lang.reflect.Modifier;
import java.net.URL;
import java.net.URLClassLoader;
import java.nio.file.Files;
import java.nio.file.Path;
import java.util.ArrayList;
import java.util.HashSet;
import java.util.List;
import java.util.Set;
import java.util.regex.Matcher;
import java.util.regex.Pattern;
import java.util.stream.Stream;
import javax.tools.JavaCompiler;
import javax.tools.ToolProvider;

// The examples of README.md answer as it says there, and it names every call, every refusal and every test.
public final class ReadmeTest {
    private static final Pattern BLOCK = Pattern.compile("(?ms)^```java\n(.*?)^```$");
    // A call with its answer: [int name = ]x.call(..);  // answer[: why]
    private static final Pattern ASKS =
        Pattern.compile("((?:int|long) (\\w+) = )?(x\\.\\w+\\([^;]*\\));  // (-?\\d+)(: .*)?");
    private static final Pattern CALLS = Pattern.compile("\\bx\\.(\\w+)\\(");
    private static final Path OUT = Path.of("build", "ReadmeTest", "examples");
    private static final long[] REFUSALS = {-1, -2, -3, -4, -11, -12, -13, -31, -32, -33, -34, -35, -36, -37, -38, -39};

    private static int wrong = 0;

    private static void hold(String what, boolean holds) {
        if (holds) return;
        wrong++;
        System.out.println("does not hold: " + what);
    }

    // One java block of README.md, as a class whose method gives the answer of each line that tells one.
    private static final class Example {
        final String name;
        final List<String> asked = new ArrayList<>();
        final List<Long> due = new ArrayList<>();
        final StringBuilder body = new StringBuilder();

        Example(String name, String block) {
            this.name = name;
            for (String line : block.split("\n")) add(line);
        }

        private void add(String line) {
            Matcher m = ASKS.matcher(line);
            if (!m.matches()) {
                hold("an answer stands behind: " + line, !line.contains("x.") || line.startsWith("for "));
                body.append(line).append('\n');
                return;
            }
            String got = m.group(3);
            if (m.group(1) != null) {
                body.append(m.group(1)).append(got).append(";\n");
                got = m.group(2);
            }
            body.append("got[").append(asked.size()).append("] = ").append(got).append(";\n");
            asked.add(line);
            due.add(Long.valueOf(m.group(4)));
        }

        String source() {
            return "public final class " + name + " {\npublic static long[] answers() {\nlong[] got = new long["
                + asked.size() + "];\n" + body + "return got;\n}\n}\n";
        }

        void compare(long[] got) {
            hold(name + " tells answers", !asked.isEmpty());
            for (int i = 0; i < got.length; i++) {
                hold("README.md, answered " + got[i] + ": " + asked.get(i), got[i] == due.get(i));
            }
        }
    }

    private static List<Example> examples(String readme) {
        List<Example> all = new ArrayList<>();
        Matcher m = BLOCK.matcher(readme);
        while (m.find()) all.add(new Example("Example" + all.size(), m.group(1)));
        hold("there are examples", all.size() >= 4);
        return all;
    }

    private static boolean compile(List<Example> examples) throws IOException {
        JavaCompiler compiler = ToolProvider.getSystemJavaCompiler();
        if (compiler == null) return false;
        Files.createDirectories(OUT);
        List<String> options = new ArrayList<>(
            List.of("-cp", System.getProperty("java.class.path"), "-d", OUT.toString()));
        for (Example e : examples) {
            Path file = OUT.resolve(e.name + ".java");
            Files.writeString(file, e.source());
            options.add(file.toString());
        }
        return compiler.run(null, null, null, options.toArray(new String[0])) == 0;
    }

    private static void run(List<Example> examples) throws Exception {
        boolean compiled = compile(examples);
        hold("the examples compile", compiled);
        if (!compiled) return;
        try (URLClassLoader loader = new URLClassLoader(new URL[] {OUT.toUri().toURL()})) {
            for (Example e : examples) {
                e.compare((long[]) loader.loadClass(e.name).getMethod("answers").invoke(null));
            }
        }
    }

    // Each answer of the tables of refusals stands in a table, and some example shows it.
    private static void refusals(String readme, List<Example> examples) {
        Set<Long> shown = new HashSet<>();
        for (Example e : examples) shown.addAll(e.due);
        for (long refusal : REFUSALS) {
            hold("a table tells " + refusal, readme.contains("\n| " + refusal + " | "));
            hold("an example shows " + refusal, shown.contains(refusal));
        }
    }

    // Each call of the face is told with as many numbers as it takes, and some example uses it.
    private static void calls(String readme, List<Example> examples) {
        Set<String> used = new HashSet<>();
        for (Example e : examples) {
            Matcher m = CALLS.matcher(e.body);
            while (m.find()) used.add(m.group(1));
        }
        for (Method call : Edits13.class.getDeclaredMethods()) {
            if (!Modifier.isPublic(call.getModifiers())) continue;
            Matcher m = Pattern.compile("(?m)^\\| `" + call.getName() + "\\(([^)]*)\\)` \\|").matcher(readme);
            boolean told = m.find();
            hold("a table tells " + call.getName(), told);
            int takes = told && !m.group(1).isEmpty() ? m.group(1).split(", ").length : 0;
            hold(call + " takes so many", takes == call.getParameterCount());
            hold("an example uses " + call.getName(), used.contains(call.getName()));
        }
    }

    private static void tests(String readme) throws IOException {
        hold("it says how to run the tests", readme.contains("```sh\n.ci/run\n```"));
        try (Stream<Path> files = Files.list(Path.of("src/test/java"))) {
            files.forEach(file -> {
                String name = file.getFileName().toString().replace(".java", "");
                hold("it names " + name, readme.contains("- `" + name + "`: "));
            });
        }
    }

    public static void main(String[] args) throws Exception {
        String readme = Files.readString(Path.of("README.md"));
        List<Example> examples = examples(readme);
        run(examples);
        refusals(readme, examples);
        calls(readme, examples);
        tests(readme);
        System.out.println(wrong == 0 ? "README.md is as due" : wrong + " sentences do not hold");
        if (wrong != 0) System.exit(1);
    }
}
