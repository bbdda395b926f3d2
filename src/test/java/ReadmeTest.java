import java.io.IOException;
import java.nio.file.Files;
import java.nio.file.Path;
import java.util.regex.Matcher;
import java.util.regex.Pattern;

/** The calls that README.md shows, in its order on one object, each with the answer written behind it. */
final class ReadmeTest {
    private static final Pattern CALL = Pattern.compile("platform\\.(\\w+)\\((.*)\\); +// ([^:]+)(:.*)?");
    private static final int LEAST_CALLS = 30;

    private ReadmeTest() {
    }

    public static void main(String[] args) throws IOException {
        Layerwright platform = new Layerwright();
        boolean isCode = false;
        int calls = 0;
        for (String line : Files.readAllLines(Path.of("README.md"))) {
            if (line.startsWith("```")) isCode = line.equals("```java");
            else if (isCode && line.startsWith("platform.")) {
                check(platform, line);
                calls++;
            } else if (isCode) {
                Runs.same("README.md, not a call", line, "Layerwright platform = new Layerwright();");
            }
        }
        Runs.same("README.md shows calls", calls >= LEAST_CALLS ? 1 : 0, 1);
        Runs.end();
    }

    private static void check(Layerwright platform, String line) {
        Matcher call = CALL.matcher(line);
        if (!call.matches()) {
            Runs.fail("README.md, a call without an answer: " + line);
            return;
        }
        String due = call.group(3);
        if (due.equals("nothing")) due = "";
        else if (due.startsWith("throws ")) due = "! " + kindOf(due.substring(7));
        else due = "= " + number(due);
        Runs.more(platform, "README.md", call.group(1) + " " + numbers(call.group(2)) + " " + due);
    }

    private static String kindOf(String exception) {
        switch (exception) {
            case "IndexOutOfBoundsException": return "index";
            case "IllegalArgumentException": return "argument";
            case "IllegalStateException": return "state";
            default: return exception;
        }
    }

    private static String numbers(String arguments) {
        StringBuilder text = new StringBuilder();
        for (String word : arguments.split(", *")) text.append(number(word)).append(' ');
        return text.toString();
    }

    /** Runs writes booleans as 1 and 0. */
    private static String number(String word) {
        if (word.equals("true")) return "1";
        return word.equals("false") ? "0" : word;
    }
}
