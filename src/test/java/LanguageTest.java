import java.io.IOException;
import java.lang.reflect.Executable;
import java.lang.reflect.Field;
import java.lang.reflect.Modifier;
import java.nio.file.Files;
import java.nio.file.Path;
import java.util.ArrayList;
import java.util.Arrays;
import java.util.List;
import java.util.regex.Matcher;
import java.util.regex.Pattern;
import java.util.stream.Collectors;
import java.util.stream.Stream;

/** The rules of ../shared/LANGUAGE.md that can be told from the source's words or from the compiled classes. */
public final class LanguageTest {
    private static final Path SOURCES = Path.of("src/main/java");

    public static void main(String[] args) throws IOException {
        oneFile();
        String code = withoutCommentsAndTexts(Files.readString(SOURCES.resolve("ImpactPlate.java")));
        forbiddenWords(code);
        usedNames(code);
        thrownExceptions(code);
        methodLengths(code);
        List<Class<?>> classes = new ArrayList<>(Arrays.asList(ImpactPlate.class.getDeclaredClasses()));
        nestedClasses(classes);
        classes.add(ImpactPlate.class);
        for (Class<?> c : classes) {
            members(c);
        }
        Check.finish();
    }

    private static void oneFile() throws IOException {
        try (Stream<Path> files = Files.walk(SOURCES)) {
            Check.due("the files of the program",
                    files.filter(Files::isRegularFile).map(Path::toString).collect(Collectors.joining(" ")),
                    SOURCES.resolve("ImpactPlate.java").toString());
        }
    }

    private static String withoutCommentsAndTexts(String source) {
        return source.replaceAll("(?s)/\\*.*?\\*/", "").replaceAll("//[^\n]*", "")
                .replaceAll("\"[^\"\n]*\"", "\"\"").replaceAll("'[^'\n]'", "' '");
    }

    private static void none(String what, String code, String regex) {
        Matcher m = Pattern.compile(regex).matcher(code);
        Check.due(what, m.find() ? m.group() : "", "");
    }

    // rules 1, 2, 3, 6, 9, 13
    private static void forbiddenWords(String code) {
        none("a package or an import", code, "\\b(package|import)\\b");
        none("a lambda or a method reference", code, "->|::");
        none("a word that is not in the language", code,
                "\\b(finally|synchronized|assert|volatile|transient|native|strictfp|protected|var|goto|yield)\\b");
        none("a catch", code, "\\bcatch\\b");
        none("a loop without an end", code, "\\b(while \\(true\\)|for \\(;;)");
        none("equals, hashCode or toString of its own", code, "\\b(equals|hashCode|toString)\\(");
        none("a text that is joined by +", code, "\"\" *\\+|\\+ *\"\"");
        none("a sign that is not 1 to 127", code, "[^\\x01-\\x7f]");
        none("doubles or floats", code, "\\b(double|float)\\b");
    }

    // rule 4: of the library the program uses Math.min, max and abs alone
    private static void usedNames(String code) {
        none("a name of the library", code.replaceAll("\\bMath\\.(min|max|abs)\\(", ""),
                "\\b(System|Math|Arrays|Integer|Long|Character|Thread|Runtime|Object|List|ArrayList)\\b");
    }

    // rule 6, and the promises: no exception but these three
    private static void thrownExceptions(String code) {
        none("another exception", code.replaceAll(
                "\\b(IllegalArgumentException|IllegalStateException|IndexOutOfBoundsException)\\b", ""),
                "\\b[A-Z]\\w*(Exception|Error)\\b");
    }

    // rule 11: some sixty lines
    private static void methodLengths(String code) {
        String[] lines = code.split("\n");
        for (int i = 0; i < lines.length; i++) {
            Matcher m = Pattern.compile("^( +)[^=;]*\\) (throws [\\w, ]+)?\\{$").matcher(lines[i]);
            if (m.find() && !lines[i].trim().matches("(} else )?(if|for|while|switch) .*")) {
                int end = i;
                while (!lines[end].equals(m.group(1) + "}")) {
                    end++;
                }
                Check.due("the method of line " + (i + 1) + " is short", end - i <= 60 ? 1 : 0, 1);
            }
        }
    }

    // rules 1 and 11
    private static void nestedClasses(List<Class<?>> classes) {
        Check.due("some twelve classes", classes.size() <= 11 ? 1 : 0, 1);
        for (Class<?> c : classes) {
            int wanted = Modifier.PRIVATE | Modifier.STATIC;
            Check.due(c.getName() + " is private and static", c.getModifiers() & wanted, wanted);
            Check.due(c.getName() + " has no classes inside", c.getDeclaredClasses().length, 0);
        }
    }

    // rules 3, 5 and 11
    private static void members(Class<?> c) {
        int fields = 0;
        for (Field f : c.getDeclaredFields()) {
            boolean isStatic = Modifier.isStatic(f.getModifiers());
            fields += isStatic ? 0 : 1;
            Check.due(c.getName() + "." + f.getName() + " is final, if static",
                    !isStatic || Modifier.isFinal(f.getModifiers()) ? 1 : 0, 1);
        }
        Check.due(c.getName() + " has some twenty fields", fields <= 20 ? 1 : 0, 1);
        List<Executable> calls = new ArrayList<>(Arrays.asList(c.getDeclaredMethods()));
        calls.addAll(Arrays.asList(c.getDeclaredConstructors()));
        for (Executable call : calls) {
            Check.due(c.getName() + "." + call.getName() + " takes at most seven parameters",
                    call.getParameterCount() <= 7 ? 1 : 0, 1);
        }
    }
}
