import java.lang.reflect.Constructor;
import java.lang.reflect.Field;
import java.lang.reflect.Method;
import java.lang.reflect.Modifier;
import java.nio.charset.StandardCharsets;
import java.nio.file.Files;
import java.nio.file.Path;
import java.util.Arrays;
import java.util.TreeSet;

/** The face is the document's and no more; and what can be seen of LANGUAGE.md from outside holds. */
public final class FaceTest {
    private static final String[] FACE = {"cost3", "near2", "push1", "drop0", "hand1", "feed5", "rule1", "book1",
        "read1", "grammar1", "place0", "sound2", "pick2", "distance2", "apart0", "pair1", "hear0", "heard1", "again1",
        "slot0", "word2", "best0", "chosen1", "count1"};

    public static void main(String[] args) throws Exception {
        Check check = new Check();
        face(check);
        nested(check);
        source(check, Files.readString(Path.of(args[0]), StandardCharsets.UTF_8));
        check.end();
    }

    private static void face(Check check) {
        check.same("public and final", SpokenDesk.class.getModifiers(), Modifier.PUBLIC | Modifier.FINAL);
        TreeSet<String> open = new TreeSet<>();
        TreeSet<String> openNames = new TreeSet<>();
        for (Method method : SpokenDesk.class.getDeclaredMethods()) {
            if (!Modifier.isPrivate(method.getModifiers())) {
                open.add(method.getName() + method.getParameterCount());
                openNames.add(method.getName());
                check.yes(method + " is public, not static, and answers int", method.getReturnType() == int.class
                        && method.getModifiers() == Modifier.PUBLIC);
            }
        }
        check.yes("the methods of the face: " + open, open.equals(new TreeSet<>(Arrays.asList(FACE))));
        for (Method method : SpokenDesk.class.getDeclaredMethods()) {
            check.yes("a private method with the name of a public one: " + method,
                    !Modifier.isPrivate(method.getModifiers()) || !openNames.contains(method.getName()));
        }
        for (Field field : SpokenDesk.class.getDeclaredFields()) {
            check.yes("an open field: " + field,
                    Modifier.isPrivate(field.getModifiers()) || field.getName().equals("NONE"));
        }
        Constructor<?>[] made = SpokenDesk.class.getDeclaredConstructors();
        check.yes("one public constructor", made.length == 1 && made[0].getModifiers() == Modifier.PUBLIC
                && made[0].getParameterCount() == 0);
    }

    private static void nested(Check check) {
        Class<?>[] inside = SpokenDesk.class.getDeclaredClasses();
        check.yes("some twelve classes at most", inside.length + 1 <= 12);
        check.yes("the fields of the class", fields(SpokenDesk.class) <= 20);
        for (Class<?> kind : inside) {
            check.yes(kind + " is static and not open", Modifier.isStatic(kind.getModifiers())
                    && !Modifier.isPublic(kind.getModifiers()) && !Modifier.isProtected(kind.getModifiers()));
            check.yes("the fields of " + kind, fields(kind) <= 20);
            for (Method method : kind.getDeclaredMethods()) {
                check.yes("seven parameters at most: " + method, method.getParameterCount() <= 7);
                check.yes("a name of the face: " + method,
                        !Arrays.asList(FACE).contains(method.getName() + method.getParameterCount()));
            }
        }
    }

    private static int fields(Class<?> kind) {
        int count = 0;
        for (Field field : kind.getDeclaredFields()) {
            boolean still = Modifier.isStatic(field.getModifiers());
            count += still ? 0 : 1;
            if (still && !Modifier.isFinal(field.getModifiers())) {
                return Integer.MAX_VALUE;
            }
        }
        return count;
    }

    private static void source(Check check, String source) {
        String[] ruledOut = {"->", "::", "Exact", "synchronized", "assert", "finally", "try {", "catch", "getMessage",
            "hashCode", "toString", "System.out", "Random", "currentTime", "nanoTime", "package ", "float", "double"};
        for (String text : ruledOut) {
            check.yes("'" + text + "' in the source", !source.contains(text));
        }
        for (int i = 0; i < source.length(); i++) {
            if (source.charAt(i) > 126) {
                check.same("a sign above 126 at " + i, source.charAt(i), 126);
            }
        }
    }
}
