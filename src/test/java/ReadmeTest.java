import java.io.IOException;
import java.lang.reflect.Method;
import java.lang.reflect.Modifier;
import java.nio.file.Files;
import java.nio.file.Path;
import java.util.List;
import java.util.TreeSet;
import java.util.regex.Matcher;
import java.util.regex.Pattern;

/** README.md holds: its example answers what its comments say, and its table names every call. */
public final class ReadmeTest {
    private static final Pattern TYPED = Pattern.compile("for \\(char c : \"(.*)\"\\.toCharArray\\(\\)\\) \\{");
    private static final Pattern PRINTED = Pattern.compile("System\\.out\\.print\\(line\\.outputAt\\(i\\)\\); +// (\\S+)");
    private static final Pattern CALL = Pattern.compile("(?:int \\w+ = )?line\\.(\\w+)\\(([-0-9, ]*)\\); +// (?:(throws \\w+)|(\\w+)).*");
    private static final Pattern OTHER = Pattern.compile("RailTimeline line = new RailTimeline\\(\\);|"
            + "for \\(int i = 0; i < length; i\\+\\+\\) \\{|line\\.type\\(c\\);|\\}");

    public static void main(String[] args) throws IOException {
        List<String> lines = Files.readAllLines(Path.of("README.md"));
        playExample(exampleOf(lines));
        checkTable(lines);
        Check.end();
    }

    private static List<String> exampleOf(List<String> lines) {
        List<String> behindStart = lines.subList(lines.indexOf("```java") + 1, lines.size());
        return behindStart.subList(0, behindStart.indexOf("```"));
    }

    private static void playExample(List<String> lines) {
        Check.equal(false, lines.isEmpty(), "README.md has no example");
        Caller caller = new Caller();
        for (String line : lines) {
            play(caller, line.trim());
        }
    }

    private static void play(Caller caller, String line) {
        Matcher typed = TYPED.matcher(line);
        Matcher printed = PRINTED.matcher(line);
        Matcher call = CALL.matcher(line);
        if (typed.matches()) {
            caller.typeText(typed.group(1));
        } else if (printed.matches()) {
            Check.equal(printed.group(1), caller.output(printed.group(1).length() + 1), line);
        } else if (call.matches()) {
            Check.equal(due(call), caller.call(call.group(1), arguments(call.group(2))), line);
        } else {
            Check.equal(true, OTHER.matcher(line).matches(), "a line of the example that this test can read: " + line);
        }
    }

    private static String due(Matcher call) {
        return call.group(3) == null ? call.group(4) : call.group(3).replaceAll("^throws ", "!").replaceAll("Exception$", "");
    }

    private static List<String> arguments(String text) {
        return text.isEmpty() ? List.of() : List.of(text.split(", "));
    }

    private static void checkTable(List<String> lines) {
        TreeSet<String> named = new TreeSet<>();
        for (String line : lines) {
            Matcher name = Pattern.compile("`(\\w+)`").matcher(line);
            while (line.startsWith("| ") && name.find()) {
                named.add(name.group(1));
            }
        }
        TreeSet<String> calls = new TreeSet<>();
        for (Method method : RailTimeline.class.getDeclaredMethods()) {
            if (Modifier.isPublic(method.getModifiers())) {
                calls.add(method.getName());
            }
        }
        Check.equal(calls, named, "the calls that the table of README.md names");
    }
}
