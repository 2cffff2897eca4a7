import java.io.IOException;
import java.lang.reflect.Constructor;
import java.lang.reflect.Field;
import java.lang.reflect.Method;
import java.lang.reflect.Modifier;
import java.nio.file.Files;
import java.nio.file.Path;
import java.util.ArrayList;
import java.util.Collections;
import java.util.List;
import java.util.Set;
import java.util.TreeSet;

/** The public face, and the rules of LANGUAGE.md that can be seen from outside. */
public final class FaceTest {
    private static final Check CHECK = new Check();
    private static final String INDEX = " IndexOutOfBoundsException";
    private static final String ARGUMENT = " IllegalArgumentException";
    private static final String[] FACE = {
        "int connector(int)" + ARGUMENT,
        "int node()",
        "int bundle(int, int, long)" + INDEX + ARGUMENT,
        "int wire(int, int, int, int)" + INDEX,
        "boolean load(int, long, long)" + INDEX + ARGUMENT,
        "int gauge(int)" + INDEX,
        "boolean table(int, long, long, long)" + INDEX + ARGUMENT,
        "long length(int)" + INDEX,
        "boolean slack(long, long)" + ARGUMENT,
        "int reel(long)" + ARGUMENT,
        "int reelOf(int)" + INDEX,
        "int splice(int, int)" + INDEX,
        "boolean joined(int, int, int, int)" + INDEX,
        "int colour(int)" + INDEX,
        "int variant()",
        "boolean has(int, int, boolean)" + INDEX,
        "int told(int, int)" + INDEX,
        "int command(int, int)" + INDEX,
    };

    public static void main(String[] args) throws IOException {
        methodsAreTheFace();
        fieldsAndConstructors();
        classesInside();
        sourceKeepsToTheLibrary(Path.of(args.length > 0 ? args[0] : "."));
        CHECK.end();
    }

    private static void methodsAreTheFace() {
        Set<String> due = new TreeSet<>(List.of(FACE));
        Set<String> found = new TreeSet<>();
        Set<String> names = new TreeSet<>();
        for (Method method : HarnessRows.class.getDeclaredMethods()) {
            if (Modifier.isPublic(method.getModifiers())) {
                found.add(written(method));
                names.add(method.getName());
            } else if (!Modifier.isPrivate(method.getModifiers())) {
                CHECK.report("neither public nor private: " + method);
            }
        }
        if (!found.equals(due)) {
            CHECK.report("the face is " + found + ", due is " + due);
        }
        noPrivateMethodBears(names, HarnessRows.class);
        for (Class<?> inside : HarnessRows.class.getDeclaredClasses()) {
            noPrivateMethodBears(names, inside);
        }
    }

    private static void noPrivateMethodBears(Set<String> names, Class<?> place) {
        for (Method method : place.getDeclaredMethods()) {
            boolean face = Modifier.isPublic(method.getModifiers());
            if (!face && names.contains(method.getName())) {
                CHECK.report("bears the name of a public one: " + method);
            }
            if (method.getParameterCount() > 7) {
                CHECK.report("more than seven parameters: " + method);
            }
        }
    }

    private static String written(Method method) {
        List<String> types = new ArrayList<>();
        for (Class<?> type : method.getParameterTypes()) {
            types.add(type.getSimpleName());
        }
        StringBuilder text = new StringBuilder();
        text.append(method.getReturnType().getSimpleName()).append(' ').append(method.getName());
        text.append('(').append(String.join(", ", types)).append(')');
        for (Class<?> thrown : method.getExceptionTypes()) {
            text.append(' ').append(thrown.getSimpleName());
        }
        return text.toString();
    }

    private static void fieldsAndConstructors() {
        CHECK.yes("the class is final and public", Modifier.isFinal(HarnessRows.class.getModifiers())
                && Modifier.isPublic(HarnessRows.class.getModifiers()));
        Constructor<?>[] constructors = HarnessRows.class.getDeclaredConstructors();
        CHECK.same("constructors", 1, constructors.length);
        CHECK.same("the constructor's parameters", 0, constructors[0].getParameterCount());
        CHECK.yes("the constructor is public", Modifier.isPublic(constructors[0].getModifiers()));
        for (Field field : HarnessRows.class.getDeclaredFields()) {
            boolean constant = field.getName().equals("NONE");
            if (constant != Modifier.isPublic(field.getModifiers())
                    || !constant && !Modifier.isPrivate(field.getModifiers())) {
                CHECK.report("wrongly visible: " + field);
            }
            if (Modifier.isStatic(field.getModifiers()) && !Modifier.isFinal(field.getModifiers())) {
                CHECK.report("static and not final: " + field);
            }
        }
    }

    private static void classesInside() {
        Class<?>[] inside = HarnessRows.class.getDeclaredClasses();
        CHECK.yes("at most twelve classes", inside.length < 12);
        for (Class<?> one : inside) {
            if (!Modifier.isStatic(one.getModifiers()) || Modifier.isPublic(one.getModifiers())) {
                CHECK.report("not static, or public: " + one);
            }
            CHECK.yes("some twenty fields in " + one, one.getDeclaredFields().length <= 20);
        }
    }

    private static void sourceKeepsToTheLibrary(Path root) throws IOException {
        String source = Files.readString(root.resolve("src/main/java/HarnessRows.java"));
        List<String> banned = new ArrayList<>();
        Collections.addAll(banned, "try {", "catch (", "finally", "synchronized", "assert", "System", "Exact", "->", "::",
                "java.util.Random", "Thread", "package ");
        for (String word : banned) {
            CHECK.no("the source holds " + word, source.contains(word));
        }
        for (String line : source.split("\n")) {
            if (line.startsWith("import ") && !line.equals("import java.util.Arrays;")) {
                CHECK.report("an import beyond the rules: " + line);
            }
        }
    }
}
