import java.io.IOException;
import java.lang.reflect.Method;
import java.lang.reflect.Modifier;
import java.nio.file.DirectoryStream;
import java.nio.file.Files;
import java.nio.file.Path;
import java.util.List;
import java.util.TreeSet;
import java.util.regex.Matcher;
import java.util.regex.Pattern;

/** README.md: its run of calls answers as it says there, and its tables name every promise and every test. */
public final class ReadmeTest {
    private static final Check CHECK = new Check("ReadmeTest");
    private static final String FIRST_LINE = "StitchSays x = new StitchSays();";
    private static final Pattern CALL = Pattern.compile("x\\.(\\w+)\\(([^()]*)\\); +// (-?\\d+)(?:: (.+))?");
    private static final Pattern PROMISES = Pattern.compile("\\| (\\d+)(?: to (\\d+))? \\|(.*)\\|");
    private static final Pattern TEST = Pattern.compile("`(\\w+Test)`");
    private static final int MOST_CALLS = 512;
    private static final int LAST_PROMISE = 41;

    private static final TreeSet<String> CALLED = new TreeSet<>();

    public static void main(String[] args) throws Exception {
        List<String> lines = Files.readAllLines(Path.of("README.md"));
        int calls = run(lines);
        CHECK.due("a run of calls, as many as an object serves for", calls > 0 && calls <= MOST_CALLS ? 1 : 0, 1);
        CHECK.dueText("the calls of the run", CALLED.toString(), face().toString());
        promises(lines);
        tests(String.join("\n", lines));
        CHECK.due("how the tests are run", lines.contains("    .ci/run") ? 1 : 0, 1);
        CHECK.finish();
    }

    /** Makes each call from the new object on: how many there were. */
    private static int run(List<String> lines) throws Exception {
        int from = lines.indexOf(FIRST_LINE);
        if (from < 1) {
            return 0;
        }
        CHECK.dueText("ahead of the run", lines.get(from - 1), "```java");
        StitchSays x = new StitchSays();
        int calls = 0;
        for (String line : lines.subList(from + 1, lines.size())) {
            if (line.equals("```")) {
                return calls;
            }
            Matcher call = CALL.matcher(line);
            if (call.matches()) {
                make(x, call);
                calls++;
            } else {
                CHECK.dueText("a line that is no call", line.isEmpty() || line.startsWith("// ") ? "" : line, "");
            }
        }
        CHECK.due("the run has an end", 0, 1);
        return calls;
    }

    private static void make(StitchSays x, Matcher call) throws Exception {
        String name = call.group(1);
        String[] told = call.group(2).isEmpty() ? new String[0] : call.group(2).split(", ");
        Method method = methodOf(name);
        Class<?>[] types = method.getParameterTypes();
        CHECK.due("numbers of " + call.group(), told.length, types.length);
        Object[] numbers = new Object[types.length];
        for (int i = 0; i < types.length; i++) {
            long number = Long.decode(told[i]);
            numbers[i] = types[i] == long.class ? (Object) number : (Object) (int) number;
        }
        CALLED.add(name);
        CHECK.due(call.group(), (int) method.invoke(x, numbers), Long.parseLong(call.group(3)));
        if (name.equals("feed")) {
            CHECK.dueText("the bytes of " + call.group(), "\"" + bytesOf(numbers) + "\"", call.group(4));
        }
    }

    private static String bytesOf(Object[] numbers) {
        StringBuilder text = new StringBuilder();
        for (Object number : numbers) {
            for (int shift = 24; shift >= 0; shift -= 8) {
                text.append((char) ((int) number >>> shift & 255));
            }
        }
        return text.toString();
    }

    private static Method methodOf(String name) {
        for (Method method : StitchSays.class.getDeclaredMethods()) {
            if (Modifier.isPublic(method.getModifiers()) && method.getName().equals(name)) {
                return method;
            }
        }
        throw new IllegalStateException("README.md calls " + name + ", which there is not");
    }

    private static TreeSet<String> face() {
        TreeSet<String> names = new TreeSet<>();
        for (Method method : StitchSays.class.getDeclaredMethods()) {
            if (Modifier.isPublic(method.getModifiers())) {
                names.add(method.getName());
            }
        }
        return names;
    }

    /** Each promise is in one row of the table, with a test of what it does and one of its bounds. */
    private static void promises(List<String> lines) {
        int next = 1;
        for (String line : lines) {
            Matcher row = PROMISES.matcher(line);
            if (row.matches()) {
                CHECK.due("the first promise of " + line, Integer.parseInt(row.group(1)), next);
                next = Integer.parseInt(row.group(row.group(2) == null ? 1 : 2)) + 1;
                CHECK.due("tests of " + line, TEST.matcher(row.group(3)).results().count(), 2);
            }
        }
        CHECK.due("the last promise", next - 1, LAST_PROMISE);
    }

    private static void tests(String text) throws IOException {
        TreeSet<String> there = new TreeSet<>();
        try (DirectoryStream<Path> files = Files.newDirectoryStream(Path.of("src/test/java"), "*Test.java")) {
            for (Path file : files) {
                there.add(file.getFileName().toString().replace(".java", ""));
            }
        }
        TreeSet<String> named = new TreeSet<>();
        TEST.matcher(text).results().forEach(found -> named.add(found.group(1)));
        CHECK.dueText("the tests that README.md names", named.toString(), there.toString());
    }
}
