import java.io.IOException;
import java.lang.reflect.InvocationTargetException;
import java.lang.reflect.Method;
import java.lang.reflect.Modifier;
import java.nio.file.Files;
import java.nio.file.Path;
import java.util.ArrayList;
import java.util.HashMap;
import java.util.List;
import java.util.Map;
import java.util.Set;
import java.util.TreeSet;
import java.util.regex.Matcher;
import java.util.regex.Pattern;

/** README.md: each call that it shows answers what stands behind it. */
public final class ReadmeTest {
    private static final Check CHECK = new Check();
    private static final String MADE = "HarnessRows rows = new HarnessRows();";
    // [type name =] rows.method(arguments); // answer[: words]
    private static final Pattern CALL = Pattern.compile(
            "(?:(int|long|boolean) (\\w+) = )?rows\\.(\\w+)\\(([^()]*)\\); +// (throws \\w+|-?\\d+|true|false)(: \\S.*)?");

    private final HarnessRows rows = new HarnessRows();
    private final Map<String, Object> names = new HashMap<>();
    private final Set<String> shown = new TreeSet<>();

    public static void main(String[] args) throws IOException {
        Path root = Path.of(args.length > 0 ? args[0] : ".");
        List<String> readme = Files.readAllLines(root.resolve("README.md"));
        new ReadmeTest().callsAnswerAsShown(readme);
        testsAreTold(root, readme);
        howToRunIsTold(root, readme);
        CHECK.end();
    }

    private void callsAnswerAsShown(List<String> readme) {
        CHECK.about("README.md: what it shows of calls and answers");
        CHECK.same("NONE", -1, HarnessRows.NONE);
        List<String> block = blockOf("```java", readme);
        CHECK.yes("an object is made first", !block.isEmpty() && block.get(0).equals(MADE));
        for (int i = 1; i < block.size(); i++) {
            lineHolds(block.get(i));
        }
        for (Method method : HarnessRows.class.getDeclaredMethods()) {
            if (Modifier.isPublic(method.getModifiers())) {
                CHECK.yes(method.getName() + " is shown", shown.contains(method.getName()));
            }
        }
    }

    private void lineHolds(String line) {
        if (line.isEmpty() || line.startsWith("// ")) {
            return;
        }
        Matcher call = CALL.matcher(line);
        if (!call.matches()) {
            CHECK.report("no call with its answer: " + line);
            return;
        }
        Method method = methodOf(call.group(3));
        if (method == null) {
            CHECK.report("no method of the face: " + line);
            return;
        }
        shown.add(method.getName());
        Object got = answer(method, call.group(4));
        if (!got.toString().equals(call.group(5))) {
            CHECK.report(line + " answered " + got);
        }
        if (call.group(1) != null) {
            CHECK.yes(line + " has its method's type", call.group(1).equals(method.getReturnType().getName()));
            CHECK.yes(line + " has a new name", names.put(call.group(2), got) == null);
        }
    }

    private static Method methodOf(String name) {
        for (Method method : HarnessRows.class.getDeclaredMethods()) {
            if (Modifier.isPublic(method.getModifiers()) && method.getName().equals(name)) {
                return method;
            }
        }
        return null;
    }

    private Object answer(Method method, String written) {
        String[] words = written.isEmpty() ? new String[0] : written.split(", ");
        Class<?>[] types = method.getParameterTypes();
        if (words.length != types.length) {
            return "other arguments";
        }
        Object[] values = new Object[words.length];
        for (int i = 0; i < words.length; i++) {
            values[i] = valueOf(words[i], types[i]);
        }
        try {
            return method.invoke(rows, values);
        } catch (InvocationTargetException e) {
            return "throws " + e.getCause().getClass().getSimpleName();
        } catch (IllegalAccessException | IllegalArgumentException e) {
            return e.toString();
        }
    }

    private Object valueOf(String word, Class<?> type) {
        if (names.containsKey(word)) {
            return names.get(word);
        }
        if (type == boolean.class) {
            return word.equals("true") ? Boolean.TRUE : word.equals("false") ? Boolean.FALSE : null;
        }
        if (!word.matches("-?\\d{1,9}")) {
            return null;
        }
        return type == long.class ? (Object) Long.valueOf(word) : (Object) Integer.valueOf(word);
    }

    private static void testsAreTold(Path root, List<String> readme) throws IOException {
        CHECK.about("README.md: the table of tests");
        Set<String> told = new TreeSet<>();
        for (String line : readme) {
            if (line.startsWith("| ") && line.contains("Test |")) {
                told.add(line.substring(2, line.indexOf(" |", 2)));
            }
        }
        Set<String> there = new TreeSet<>();
        try (var files = Files.newDirectoryStream(root.resolve("src/test/java"), "*Test.java")) {
            for (Path file : files) {
                there.add(file.getFileName().toString().replace(".java", ""));
            }
        }
        if (!told.equals(there)) {
            CHECK.report("told are " + told + ", there are " + there);
        }
    }

    private static void howToRunIsTold(Path root, List<String> readme) {
        CHECK.about("README.md: how to run its tests");
        List<String> block = blockOf("```sh", readme);
        CHECK.same("commands", 1, block.size());
        for (String command : block) {
            CHECK.yes(command + " is there and can be run", Files.isExecutable(root.resolve(command)));
        }
    }

    private static List<String> blockOf(String fence, List<String> readme) {
        List<String> block = new ArrayList<>();
        boolean inside = false;
        for (String line : readme) {
            if (line.startsWith("```")) {
                inside = line.equals(fence);
            } else if (inside) {
                block.add(line);
            }
        }
        return block;
    }
}
