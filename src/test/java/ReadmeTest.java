import java.lang.reflect.Method;
import java.lang.reflect.Modifier;
import java.nio.charset.StandardCharsets;
import java.nio.file.Files;
import java.nio.file.Path;
import java.util.Arrays;
import java.util.TreeSet;
import java.util.regex.Matcher;
import java.util.regex.Pattern;

/** Plays the lines of README.md on one object: each answers the number that stands behind it. */
public final class ReadmeTest {
    private static final Pattern CALL = Pattern.compile("desk\\.(\\w+)\\((.*?)\\);(?:\\s*// (-?\\d+).*)?");

    private final Check check = new Check();
    private final SpokenDesk desk = new SpokenDesk();

    public static void main(String[] args) throws Exception {
        // What is given is the path of src/main/java/SpokenDesk.java, four steps below README.md's directory.
        Path root = Path.of(args[0]).toAbsolutePath().getParent().getParent().getParent().getParent();
        new ReadmeTest().play(Files.readString(root.resolve("README.md"), StandardCharsets.UTF_8));
    }

    private void play(String readme) throws Exception {
        int from = readme.indexOf("```java\n");
        int to = readme.indexOf("```\n", from + 1);
        check.yes("there are lines to play", from >= 0 && to > from);
        for (String line : readme.substring(Math.max(from, 0), Math.max(to, 0)).split("\n")) {
            Matcher matcher = CALL.matcher(line);
            check.yes("not a call: " + line, matcher.matches() || !line.startsWith("desk"));
            if (matcher.matches()) {
                call(line, matcher.group(1), matcher.group(2), matcher.group(3));
            }
        }
        faultThatIsTold();
        check.yes("what is left out: " + left(readme), left(readme).isEmpty());
        check.end();
    }

    private void call(String line, String name, String given, String due) throws Exception {
        Object[] numbers = given.isEmpty() ? new Object[0]
                : Arrays.stream(given.split(", ")).map(Integer::decode).toArray();
        Class<?>[] kinds = new Class<?>[numbers.length];
        Arrays.fill(kinds, int.class);
        Object got = SpokenDesk.class.getMethod(name, kinds).invoke(desk, numbers);
        if (due != null) {
            check.same(line, (Integer) got, Integer.parseInt(due));
        }
    }

    private void faultThatIsTold() {
        check.same("the fault of (a|", Check.grammar(desk, "(a|"), -9);
        check.same("its place", desk.place(), 3);
        check.same("the commands stay", desk.count(2), 4);
    }

    /** The calls of the face that README.md does not name between backticks. */
    private static TreeSet<String> left(String readme) {
        TreeSet<String> left = new TreeSet<>();
        for (Method method : SpokenDesk.class.getDeclaredMethods()) {
            if (Modifier.isPublic(method.getModifiers())
                    && !readme.contains("`" + method.getName() + "`")) {
                left.add(method.getName());
            }
        }
        return left;
    }
}
