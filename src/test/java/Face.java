import java.io.IOException;
import java.nio.file.Files;
import java.nio.file.Path;
import java.util.ArrayList;
import java.util.List;
import java.util.regex.Matcher;
import java.util.regex.Pattern;

/** The calls of the document's public face, read from the document itself. */
final class Face {
    private static final Path DOCUMENT = Path.of("../shared/DOC.md");
    private static final Pattern CALL =
            Pattern.compile("    public ((?:int|long) (\\w+)\\([^)]*\\))(?: throws ([\\w, ]+))?;");

    record Call(String signature, String name, List<String> exceptions) {
    }

    private Face() {
    }

    static List<Call> calls() throws IOException {
        List<Call> calls = new ArrayList<>();
        for (String line : Files.readAllLines(DOCUMENT)) {
            Matcher m = CALL.matcher(line);
            if (m.matches()) {
                List<String> exceptions = m.group(3) == null ? List.of() : List.of(m.group(3).split(", "));
                calls.add(new Call(m.group(1), m.group(2), exceptions));
            }
        }
        Check.due("the document's face has calls", calls.isEmpty() ? 0 : 1, 1);
        return calls;
    }
}
