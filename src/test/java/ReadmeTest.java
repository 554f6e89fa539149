import java.io.IOException;
import java.lang.reflect.InvocationTargetException;
import java.lang.reflect.Method;
import java.lang.reflect.Modifier;
import java.nio.file.DirectoryStream;
import java.nio.file.Files;
import java.nio.file.Path;
import java.util.ArrayList;
import java.util.List;
import java.util.Set;
import java.util.TreeSet;
import java.util.regex.Matcher;
import java.util.regex.Pattern;

/**
 * The calls that README.md shows, in their order, have the answers and make the rows that it shows.
 * In its pieces of Java a line makes a desk, or it is one call with its answer in a comment behind it.
 */
public final class ReadmeTest {
    private static final Path README = Path.of("README.md");
    private static final Path TESTS = Path.of("src/test/java");
    private static final String NEW_DESK = "RowDesk desk = new RowDesk();";
    private static final Pattern PIECE = Pattern.compile("(?s)```java\n(.*?)```");
    private static final Pattern CALL =
            Pattern.compile("desk\\.(\\w+)\\((.*)\\); *// (-?\\d+|RowDesk\\.NONE|RowDesk\\.FULL)(?:: (.*))?");
    private static final Pattern ROW = Pattern.compile("register (\\d) has \"([^\"]*)\"");

    private final Set<String> shown = new TreeSet<>();
    private final List<Bench.Call> done = new ArrayList<>();
    private RowDesk desk = null;

    public static void main(String[] args) throws IOException {
        String readme = Files.readString(README);
        ReadmeTest test = new ReadmeTest();
        Matcher piece = PIECE.matcher(readme);
        while (piece.find()) {
            piece.group(1).lines().forEach(test::line);
        }
        test.everyCallIsShown();
        everyTestIsNamed(readme);
        Bench.close();
    }

    private void line(String line) {
        Matcher call = CALL.matcher(line);
        if (line.equals(NEW_DESK)) {
            desk = new RowDesk();
            done.clear();
        } else if (desk != null && call.matches()) {
            shownCall(line, call);
        } else {
            Bench.dueText("README.md: a line of Java", line, "a desk made, or a call with its answer");
        }
    }

    private void shownCall(String line, Matcher call) {
        Bench.Call made = callOf(call.group(1), call.group(2));
        shown.add(call.group(1));
        done.add(made);
        Bench.due("README.md: " + line, made.on(desk), numberOf(call.group(3)));
        Matcher row = ROW.matcher(call.group(4) == null ? "" : call.group(4));
        while (row.find()) {
            Bench.dueRow("README.md: " + line, deskAfterCalls(), Integer.parseInt(row.group(1)), row.group(2));
        }
    }

    /** Rows are read on another desk, so that the one shown has no calls but those shown. */
    private RowDesk deskAfterCalls() {
        RowDesk another = new RowDesk();
        for (Bench.Call call : done) {
            call.on(another);
        }
        return another;
    }

    private static Bench.Call callOf(String name, String given) {
        Method method = methodOf(name);
        String[] written = given.isEmpty() ? new String[0] : given.split(", ");
        Object[] values = new Object[written.length];
        for (int i = 0; i < written.length; i++) {
            boolean isTruth = written[i].equals("true") || written[i].equals("false");
            values[i] = isTruth ? (Object) Boolean.valueOf(written[i]) : (Object) numberOf(written[i]);
        }
        return desk -> {
            try {
                return (int) method.invoke(desk, values);
            } catch (IllegalAccessException | InvocationTargetException e) {
                throw new IllegalStateException("README.md: " + name + "(" + given + ")", e);
            }
        };
    }

    private static Method methodOf(String name) {
        for (Method method : RowDesk.class.getDeclaredMethods()) {
            if (Modifier.isPublic(method.getModifiers()) && method.getName().equals(name)) {
                return method;
            }
        }
        throw new IllegalStateException("README.md shows " + name + ", and there is no such call");
    }

    private static int numberOf(String written) {
        if (written.equals("RowDesk.NONE")) {
            return RowDesk.NONE;
        }
        if (written.equals("RowDesk.FULL")) {
            return RowDesk.FULL;
        }
        if (written.startsWith("0x")) {
            return Integer.parseUnsignedInt(written.substring(2), 16);
        }
        return written.matches("'.'") ? written.charAt(1) : Integer.parseInt(written);
    }

    private void everyCallIsShown() {
        for (Method method : RowDesk.class.getDeclaredMethods()) {
            if (Modifier.isPublic(method.getModifiers())) {
                Bench.due("README.md shows " + method.getName(), shown.contains(method.getName()) ? 1 : 0, 1);
            }
        }
    }

    private static void everyTestIsNamed(String readme) throws IOException {
        try (DirectoryStream<Path> tests = Files.newDirectoryStream(TESTS, "*.java")) {
            for (Path test : tests) {
                String name = test.getFileName().toString().replace(".java", "");
                Bench.due("README.md names " + name, readme.contains("`" + name + "`") ? 1 : 0, 1);
            }
        }
    }
}
