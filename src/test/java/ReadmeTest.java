import java.io.IOException;
import java.lang.reflect.Method;
import java.lang.reflect.Modifier;
import java.nio.file.Files;
import java.nio.file.Path;
import java.util.Set;
import java.util.TreeSet;
import java.util.regex.Matcher;
import java.util.regex.Pattern;

/** The run of calls in README.md: each answers what stands behind it, and every call of the face is shown. */
public final class ReadmeTest {
    private static final Path README = Path.of("README.md");
    private static final Pattern CALL = Pattern.compile("x\\.(\\w+)\\(([^)]*)\\);\\s+// (-?\\w+)\\b.*");
    private static final Pattern FEED = Pattern.compile("feed\\(x, \"(.*)\"\\);");
    private static final Check check = new Check();

    private final MarkTree x = new MarkTree();
    private final Set<String> shown = new TreeSet<>();

    public static void main(String[] args) throws IOException {
        new ReadmeTest().run(Files.readString(README));
        check.finish();
    }

    private void run(String readme) {
        String start = "MarkTree x = new MarkTree();\n";
        int from = readme.indexOf(start);
        int to = readme.indexOf("```", from);
        check.that("the README has a run of calls", from >= 0 && to > from);
        if (check.anyWrong()) return;
        for (String line : readme.substring(from + start.length(), to).split("\n")) {
            if (!line.isEmpty() && !line.startsWith("//")) runLine(line);
        }
        Set<String> face = new TreeSet<>();
        for (Method m : MarkTree.class.getDeclaredMethods()) {
            if (Modifier.isPublic(m.getModifiers())) face.add(m.getName());
        }
        check.that("every call is shown: " + shown, shown.equals(face));
    }

    private void runLine(String line) {
        Matcher feed = FEED.matcher(line);
        Matcher call = CALL.matcher(line);
        if (feed.matches()) {
            shown.add("feed");
            Check.text(x, feed.group(1));
        } else if (call.matches()) {
            shown.add(call.group(1));
            check.due(line, new Call(call.group(1), numbers(call.group(2))).on(x), number(call.group(3)));
        } else {
            check.that("a call with its answer: " + line, false);
        }
    }

    private static long[] numbers(String list) {
        if (list.isEmpty()) return new long[0];
        String[] parts = list.split(", ");
        long[] numbers = new long[parts.length];
        for (int i = 0; i < parts.length; i++) numbers[i] = number(parts[i]);
        return numbers;
    }

    private static long number(String s) {
        switch (s) {
            case "NONE": return MarkTree.NONE;
            case "UNKNOWN": return MarkTree.UNKNOWN;
            case "OUTSIDE": return MarkTree.OUTSIDE;
            case "NOT": return MarkTree.NOT;
            case "FULL": return MarkTree.FULL;
            default: return Long.parseLong(s);
        }
    }
}
