import java.io.IOException;
import java.nio.file.Files;
import java.nio.file.Path;
import java.util.ArrayList;
import java.util.HashMap;
import java.util.List;
import java.util.Map;
import java.util.Set;
import java.util.TreeSet;
import java.util.regex.Matcher;
import java.util.regex.Pattern;

/** The calls that README.md shows answer as it says there, and it shows every call of the face. */
final class ReadmeTest {
    private static final Path README = Path.of("README.md");
    private static final String BLOCK_BEGINS = "```java";
    private static final String BLOCK_ENDS = "```";
    private static final String CONSTRUCTOR = "MooringTree harbour = new MooringTree();";
    private static final Pattern CALL =
            Pattern.compile("(?:int (\\w+) = )?harbour\\.((\\w+)\\((.*)\\)); +// ([^:]+): .+");

    private final Map<String, FaceCall> calls = new HashMap<>();
    private final Map<String, Integer> values = new HashMap<>();
    private final Set<String> shown = new TreeSet<>();
    private MooringTree harbour;

    private ReadmeTest() {
        for (FaceCall call : FaceCall.all(0, 0)) {
            calls.put(call.name(), call);
        }
        values.put("MooringTree.BERTH", MooringTree.BERTH);
        values.put("MooringTree.LEAVE", MooringTree.LEAVE);
    }

    public static void main(String[] args) throws IOException {
        ReadmeTest test = new ReadmeTest();
        for (String line : shownLines()) {
            test.make(line);
        }
        Check.due("the calls shown", new TreeSet<>(test.calls.keySet()), test.shown);
        Check.end();
    }

    private static List<String> shownLines() throws IOException {
        List<String> lines = new ArrayList<>();
        boolean inBlock = false;
        for (String line : Files.readAllLines(README)) {
            if (line.startsWith(BLOCK_ENDS)) {
                inBlock = line.equals(BLOCK_BEGINS);
            } else if (inBlock && !line.isEmpty() && !line.startsWith("//")) {
                lines.add(line);
            }
        }
        return lines;
    }

    private void make(String line) {
        Matcher call = CALL.matcher(line);
        if (line.equals(CONSTRUCTOR)) {
            harbour = new MooringTree();
        } else if (harbour == null || !call.matches() || !calls.containsKey(call.group(3))) {
            Check.due("the line \"" + line + "\"", "a call with its answer", "something else");
        } else {
            make(call.group(2), call.group(3), valuesOf(call.group(4)), call.group(5), call.group(1));
        }
    }

    private void make(String told, String name, int[] arguments, String due, String kept) {
        String got = Check.answerOf(() -> calls.get(name).asking().answer(harbour, arguments));
        Check.due(told, due.replace("throws ", Check.THROWS), got);
        shown.add(name);
        if (kept != null) {
            values.put(kept, Integer.valueOf(got));
        }
    }

    private int[] valuesOf(String arguments) {
        String[] texts = arguments.isEmpty() ? new String[0] : arguments.split(", ");
        int[] read = new int[texts.length];
        for (int i = 0; i < read.length; i++) {
            Integer known = values.get(texts[i]);
            read[i] = known != null ? known : Integer.parseInt(texts[i]);
        }
        return read;
    }
}
