import java.io.IOException;
import java.net.URL;
import java.net.URLClassLoader;
import java.nio.file.Files;
import java.nio.file.Path;
import java.util.ArrayList;
import java.util.Comparator;
import java.util.List;
import java.util.TreeSet;
import java.util.function.LongSupplier;
import java.util.regex.Matcher;
import java.util.regex.Pattern;
import java.util.stream.Collectors;
import java.util.stream.Stream;
import javax.tools.JavaCompiler;
import javax.tools.ToolProvider;

/**
 * README.md: its examples are compiled and run, and answer what it tells; its tables name the calls of the document's
 * face with their exceptions, and all tests; its command is there.
 */
public final class ReadmeTest {
    private static final Path README = Path.of("README.md");
    private static final Path TESTS = Path.of("src/test/java");
    // a call that stands at the line's begin tells its answer; in a loop it does not, the lines behind it do
    private static final Pattern CALL = Pattern.compile("plate\\.(\\w+)\\(.*");
    private static final Pattern TOLD =
            Pattern.compile("(plate\\.(\\w+)\\(.*\\)); +// (-?\\d+|NONE|throws (\\w+)): .+");
    private static final Pattern ROW = Pattern.compile("\\| `((?:int|long) \\w+\\([^)]*\\))` \\| .+ \\| (.*)\\|");
    private static final Pattern EXCEPTION = Pattern.compile("`(\\w+Exception)` if ");

    // "name" for each call that an example shows, "name throws exception" for each refusal
    private static final TreeSet<String> shownCalls = new TreeSet<>();
    private static int shownAnswers = 0;
    private static int toldAnswers = 0;

    public static void main(String[] args) throws Exception {
        List<String> lines = Files.readAllLines(README);
        List<Face.Call> face = Face.calls();
        runExamples(lines);
        examplesShow(face);
        tableTells(lines, face);
        tableNamesTests(lines);
        commands(lines);
        Check.finish();
    }

    /** What a line of an example calls: it answers, or throws, what the line tells. */
    public static void shown(int line, LongSupplier call, String told) {
        shownAnswers++;
        Check.due("README.md, line " + line + ":", Check.answer(call::getAsLong), told);
    }

    private static void runExamples(List<String> lines) throws Exception {
        Path work = Files.createTempDirectory("readme");
        try {
            Path source = work.resolve("Shown.java");
            Files.writeString(source, programOf(lines));
            JavaCompiler compiler = ToolProvider.getSystemJavaCompiler();
            int exit = compiler.run(null, null, null, "--release", "17", "-cp",
                    System.getProperty("java.class.path"), "-d", work.toString(), source.toString());
            Check.due("compiling the examples of README.md", exit, 0);
            if (exit == 0) {
                runCompiled(work);
            }
        } finally {
            delete(work);
        }
        Check.due("README.md's answers that were looked at", shownAnswers, toldAnswers);
        Check.due("README.md shows answers", toldAnswers > 0 ? 1 : 0, 1);
    }

    private static void runCompiled(Path work) throws Exception {
        URL[] places = {work.toUri().toURL()};
        try (URLClassLoader loader = new URLClassLoader(places, ReadmeTest.class.getClassLoader())) {
            loader.loadClass("Shown").getMethod("run").invoke(null);
        }
    }

    private static void delete(Path folder) throws IOException {
        List<Path> inside;
        try (Stream<Path> walk = Files.walk(folder)) {
            inside = walk.sorted(Comparator.reverseOrder()).collect(Collectors.toList());
        }
        for (Path p : inside) {
            Files.delete(p);
        }
    }

    /** Each example becomes a block of its own, so that its plate is a new one. */
    private static String programOf(List<String> lines) {
        StringBuilder program = new StringBuilder("public final class Shown {\npublic static void run() {\n");
        boolean inExample = false;
        for (int i = 0; i < lines.size(); i++) {
            String line = lines.get(i);
            if (line.equals("```java")) {
                inExample = true;
                program.append("{\n");
            } else if (inExample && line.equals("```")) {
                inExample = false;
                program.append("}\n");
            } else if (inExample) {
                program.append(statementOf(i + 1, line)).append('\n');
            }
        }
        return program.append("}\n}\n").toString();
    }

    private static String statementOf(int number, String line) {
        Matcher told = TOLD.matcher(line);
        if (!told.matches()) {
            Check.due("README.md, line " + number + " tells no answer:", CALL.matcher(line).matches() ? line : "", "");
            return line;
        }
        toldAnswers++;
        shownCalls.add(told.group(2));
        String due = told.group(3).equals("NONE") ? "-9" : told.group(3);
        if (told.group(4) != null) {
            shownCalls.add(told.group(2) + " throws " + told.group(4));
            due = "java.lang." + told.group(4);
        }
        return "ReadmeTest.shown(" + number + ", () -> " + told.group(1) + ", \"" + due + "\");";
    }

    private static void examplesShow(List<Face.Call> face) {
        TreeSet<String> wanted = new TreeSet<>();
        for (Face.Call call : face) {
            wanted.add(call.name());
            for (String exception : call.exceptions()) {
                wanted.add(call.name() + " throws " + exception);
            }
        }
        Check.due("what the examples of README.md show", shownCalls.toString(), wanted.toString());
    }

    private static void tableTells(List<String> lines, List<Face.Call> face) {
        List<String> wanted = new ArrayList<>();
        for (Face.Call call : face) {
            wanted.add(call.signature() + " throws " + call.exceptions());
        }
        List<String> told = new ArrayList<>();
        for (String line : lines) {
            Matcher row = ROW.matcher(line);
            if (row.matches()) {
                List<String> exceptions = new ArrayList<>();
                Matcher m = EXCEPTION.matcher(row.group(2));
                while (m.find()) {
                    exceptions.add(m.group(1));
                }
                told.add(row.group(1) + " throws " + exceptions);
            }
        }
        Check.due("the calls in README.md's tables", told.toString(), wanted.toString());
    }

    private static void tableNamesTests(List<String> lines) throws IOException {
        TreeSet<String> there = new TreeSet<>();
        try (Stream<Path> files = Files.list(TESTS)) {
            files.map(p -> p.getFileName().toString()).filter(name -> name.endsWith("Test.java"))
                    .forEach(name -> there.add(name.replace(".java", "")));
        }
        TreeSet<String> told = new TreeSet<>();
        for (String line : lines) {
            Matcher m = Pattern.compile("\\| `(\\w+Test)` \\| .+").matcher(line);
            if (m.matches()) {
                told.add(m.group(1));
            }
        }
        Check.due("the tests that README.md names", told.toString(), there.toString());
    }

    private static void commands(List<String> lines) {
        List<String> commands = new ArrayList<>();
        boolean inCommands = false;
        for (String line : lines) {
            if (line.startsWith("```")) {
                inCommands = line.equals("```sh");
            } else if (inCommands) {
                commands.add(line);
            }
        }
        Check.due("the commands of README.md", commands.toString(), "[.ci/run]");
        Check.due(".ci/run can be run", Files.isExecutable(Path.of(".ci/run")) ? 1 : 0, 1);
    }
}
