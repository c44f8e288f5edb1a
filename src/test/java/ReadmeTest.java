import java.io.IOException;
import java.lang.reflect.Method;
import java.lang.reflect.Modifier;
import java.nio.file.Files;
import java.nio.file.Path;
import java.util.Arrays;
import java.util.List;
import java.util.regex.Matcher;
import java.util.regex.Pattern;

/** What README.md says of the class holds: its calls are answered so, and it names the whole face. */
public final class ReadmeTest {
    private static final String FIRST_LINE = "CaseNet net = new CaseNet();";
    private static final Pattern CALL = Pattern.compile("net\\.(\\w+)\\((.*)\\); +// (\\w+|-\\d+)(:.*)?");
    private static final int LEAST_CALLS = 20;

    public static void main(String[] args) throws IOException {
        Checks checks = new Checks();
        checks.about("README.md");
        List<String> lines = Files.readAllLines(Path.of("README.md"));
        callsAreAnsweredAsItSays(checks, lines);
        eachCallIsNamed(checks, String.join("\n", lines));
        checks.endProgram();
    }

    private static void callsAreAnsweredAsItSays(Checks checks, List<String> lines) {
        int begin = lines.indexOf(FIRST_LINE);
        checks.due("makes an object", true, begin >= 0);
        Trace net = new Trace();
        int calls = 0;
        for (String line : lines.subList(begin + 1, lines.size())) {
            if (line.equals("```")) {
                break;
            }
            Matcher call = CALL.matcher(line);
            boolean isCall = call.matches();
            checks.due("is a call with its answer: " + line, true, isCall);
            if (isCall) {
                checks.due(line, number(call.group(3)), net.call(call.group(1), numbers(call.group(2))));
                calls++;
            }
        }
        checks.due("shows some calls", true, calls >= LEAST_CALLS);
    }

    private static int[] numbers(String list) {
        return Arrays.stream(list.split(", ")).filter(text -> !text.isEmpty()).mapToInt(ReadmeTest::number).toArray();
    }

    private static int number(String text) {
        if (text.equals("true") || text.equals("false")) {
            return text.equals("true") ? 1 : 0;
        }
        return text.startsWith("0b") ? Integer.parseInt(text.substring(2), 2) : Integer.parseInt(text);
    }

    private static void eachCallIsNamed(Checks checks, String text) {
        for (Method method : CaseNet.class.getDeclaredMethods()) {
            if (Modifier.isPublic(method.getModifiers())) {
                checks.due("names " + method.getName(), true, text.contains("`" + method.getName() + "("));
            }
        }
    }
}
