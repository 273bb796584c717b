import java.lang.reflect.Method;
import java.lang.reflect.Modifier;
import java.nio.file.Files;
import java.nio.file.Path;
import java.util.ArrayList;
import java.util.HashSet;
import java.util.List;
import java.util.Set;
import java.util.regex.Matcher;
import java.util.regex.Pattern;

/** README.md is no proof of itself: its example answers as it says, and its table names every call. */
public final class ReadmeRuns {
    private static final Path README = Path.of("README.md");
    private static final Path DOCUMENT = Path.of("../shared/DOC.md");
    private static final Pattern EXAMPLE = Pattern.compile("```java\n(.*?)```", Pattern.DOTALL);
    private static final Pattern CALL = Pattern.compile("bow\\.(\\w+)\\((.*?)\\);\\s+// (-?\\d+): .+");
    private static final Pattern FACE_CALL = Pattern.compile("    public (?:int|long) (\\w+)\\(.*\\);");
    private static final Pattern NAMED = Pattern.compile("`(\\w+)`");

    private final Check check = new Check();

    public static void main(String[] args) throws Exception {
        ReadmeRuns t = new ReadmeRuns();
        String readme = Files.readString(README);
        t.check.about("README.md");
        t.example(readme);
        t.table(readme);
        t.check.close("ReadmeRuns");
    }

    private void example(String readme) throws Exception {
        Matcher block = EXAMPLE.matcher(readme);
        check.due("there is an example", block.find() ? 1 : 0, 1);
        BowBend bow = new BowBend();
        for (String line : block.group(1).split("\n")) {
            if (line.isEmpty() || line.startsWith("BowBend bow = new BowBend();")) {
                continue;
            }
            Matcher call = CALL.matcher(line);
            boolean isCall = call.matches();
            check.due("a call with its answer: " + line, isCall ? 1 : 0, 1);
            if (isCall) {
                check.due(line, answer(bow, call.group(1), call.group(2)), Long.parseLong(call.group(3)));
            }
        }
    }

    private static long answer(BowBend bow, String name, String written) throws Exception {
        Method method = method(name);
        Class<?>[] kinds = method.getParameterTypes();
        String[] words = written.isEmpty() ? new String[0] : written.split(", ");
        if (words.length != kinds.length) {
            throw new IllegalStateException("README.md: " + name + "(" + written + ")");
        }
        Object[] args = new Object[words.length];
        for (int i = 0; i < args.length; i++) {
            args[i] = argument(kinds[i], words[i]);
        }
        return ((Number) method.invoke(bow, args)).longValue();
    }

    private static Method method(String name) {
        for (Method method : BowBend.class.getDeclaredMethods()) {
            if (method.getName().equals(name) && Modifier.isPublic(method.getModifiers())) {
                return method;
            }
        }
        throw new IllegalStateException("README.md: there is no call " + name);
    }

    private static Object argument(Class<?> kind, String word) {
        if (kind == boolean.class) {
            return Boolean.valueOf(word);
        }
        long number = Long.decode(word.replace("L", ""));
        return kind == long.class ? (Object) number : (Object) Math.toIntExact(number);
    }

    /** Each call of the document's face stands in the table once, and nothing else does. */
    private void table(String readme) throws Exception {
        List<String> named = new ArrayList<>();
        for (String line : readme.split("\n")) {
            if (line.startsWith("| ")) {
                NAMED.matcher(line).results().forEach(name -> named.add(name.group(1)));
            }
        }
        Set<String> face = new HashSet<>();
        FACE_CALL.matcher(Files.readString(DOCUMENT)).results().forEach(call -> face.add(call.group(1)));
        check.due("calls of the face", face.size(), 36);
        check.due("calls that the table names", named.size(), face.size());
        for (String name : face) {
            check.due("the table names " + name, named.contains(name) ? 1 : 0, 1);
        }
    }
}
