import java.lang.reflect.InvocationTargetException;
import java.lang.reflect.Method;
import java.lang.reflect.Modifier;
import java.util.Arrays;
import java.util.Comparator;
import java.util.List;

/** Rule 7 of LANGUAGE.md: no call throws by itself, for any arguments in any state, also behind the 512th call. */
public final class MachineTest {
    private static final Check CHECK = new Check();
    private static final Object[] INTS = {
        Integer.MIN_VALUE, -1, 0, 1, 9, 10, 15, 16, 23, 24, Integer.MAX_VALUE,
    };
    private static final Object[] LONGS = {
        Long.MIN_VALUE, -1L, 0L, 1L, 1_000L, 100_000L, 1_000_000L, 1L << 32, Long.MAX_VALUE,
    };
    private static final Object[] BOOLEANS = {false, true};
    private static final Method LENGTH = question("length");
    private static final Method COLOUR = question("colour");

    public static void main(String[] args) throws IllegalAccessException {
        asked("empty", new HarnessRows());
        asked("with few of all", harness(3, 2, 1));
        asked("with few wires without a way", harness(4, 16, 0));
        asked("full", harness(16, 16, 6));
        CHECK.end();
    }

    private static Method question(String name) {
        try {
            return HarnessRows.class.getMethod(name, int.class);
        } catch (NoSuchMethodException e) {
            throw new IllegalStateException(e);
        }
    }

    private static HarnessRows harness(int connectors, int cavities, int variants) {
        HarnessRows x = new HarnessRows();
        for (int i = 0; i < connectors; i++) {
            x.connector(cavities);
        }
        for (int i = 1; i < connectors && variants > 0; i++) {
            x.bundle(i - 1, i, 100_000);
        }
        for (int end = 0; end + 1 < connectors * cavities; end += 2) {
            x.wire(end % connectors, end / connectors, (end + 1) % connectors, (end + 1) / connectors);
        }
        for (int i = 0; i < variants; i++) {
            x.variant();
        }
        return x;
    }

    /** Twice, since the first time the calls fill the object. */
    private static void asked(String state, HarnessRows x) throws IllegalAccessException {
        Method[] methods = HarnessRows.class.getDeclaredMethods();
        // The machine tells them in no order that it promises; every run must be the same.
        Arrays.sort(methods, Comparator.comparing(Method::getName));
        for (int time = 0; time < 2; time++) {
            for (Method method : methods) {
                if (Modifier.isPublic(method.getModifiers())) {
                    CHECK.about("rule 7: " + state + ", " + method.getName());
                    askAll(x, method, new Object[method.getParameterCount()], 0);
                }
            }
        }
    }

    private static void askAll(HarnessRows x, Method method, Object[] values, int at) throws IllegalAccessException {
        if (at == values.length) {
            ask(x, method, values);
            // What a call let in shows when it is divided by, or is an index.
            ask(x, LENGTH, 0);
            ask(x, COLOUR, 23);
            return;
        }
        Class<?> type = method.getParameterTypes()[at];
        for (Object value : type == int.class ? INTS : type == long.class ? LONGS : BOOLEANS) {
            values[at] = value;
            askAll(x, method, values, at + 1);
        }
    }

    private static void ask(HarnessRows x, Method method, Object... values) throws IllegalAccessException {
        try {
            method.invoke(x, values);
        } catch (InvocationTargetException e) {
            // The very class: what the machine throws is a subclass, or no exception that is named.
            List<Class<?>> named = Arrays.asList(method.getExceptionTypes());
            if (!named.contains(e.getCause().getClass())) {
                CHECK.report(Arrays.toString(values) + " threw " + e.getCause());
            }
        }
    }
}
