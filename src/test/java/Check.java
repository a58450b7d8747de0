import java.lang.reflect.InvocationTargetException;
import java.lang.reflect.Method;
import java.lang.reflect.Modifier;
import java.util.Arrays;
import java.util.Comparator;
import java.util.List;
import java.util.function.Consumer;
import java.util.function.Supplier;
import java.util.function.ToLongFunction;

/** What the tests share: it prints every answer that is not the one that is due. */
final class Check {
    private static int wrong = 0;
    private static String running = "";

    private Check() {
    }

    /**
     * Runs every static method without parameters and answer, each as a test of its own, and ends with exit
     * code 1 if an answer was wrong.
     */
    static void runAll(Class<?> tests) {
        Method[] methods = tests.getDeclaredMethods();
        Arrays.sort(methods, Comparator.comparing(Method::getName));
        int ran = 0;
        for (Method m : methods) {
            if (isTest(m)) {
                run(m);
                ran++;
            }
        }
        System.out.println(ran + " tests, " + wrong + " wrong answers");
        if (ran == 0 || wrong != 0) {
            System.exit(1);
        }
    }

    private static boolean isTest(Method m) {
        return Modifier.isStatic(m.getModifiers()) && !m.isSynthetic()
                && m.getParameterCount() == 0 && m.getReturnType() == void.class;
    }

    private static void run(Method m) {
        running = m.getName();
        try {
            m.setAccessible(true);
            m.invoke(null);
        } catch (InvocationTargetException e) {
            complain("threw " + e.getCause());
        } catch (IllegalAccessException e) {
            complain("cannot be run");
        }
    }

    static void same(String call, long got, long due) {
        if (got != due) {
            complain(call + " answered " + got + ", due is " + due);
        }
    }

    static void same(String call, String got, String due) {
        if (!got.equals(due)) {
            complain(call + " gave " + got + ", due is " + due);
        }
    }

    static void yes(String call, boolean got) {
        same(call, got ? 1 : 0, 1);
    }

    static void no(String call, boolean got) {
        same(call, got ? 1 : 0, 0);
    }

    /**
     * The call has to throw exactly this. That it changed nothing is seen beside a second bench that was
     * made in the same way and was not asked.
     */
    static void refuses(Class<? extends RuntimeException> due, String call, Supplier<RelayBench> maker,
            Consumer<RelayBench> body) {
        RelayBench x = maker.get();
        Class<?> got = null;
        try {
            body.accept(x);
        } catch (RuntimeException e) {
            got = e.getClass();
        }
        if (got != due) {
            complain(call + " threw " + got + ", due is " + due);
        }
        sameStory(call + " when refused", x, maker.get());
    }

    static void badArgument(String call, Supplier<RelayBench> maker, Consumer<RelayBench> body) {
        refuses(IllegalArgumentException.class, call, maker, body);
    }

    static void badState(String call, Supplier<RelayBench> maker, Consumer<RelayBench> body) {
        refuses(IllegalStateException.class, call, maker, body);
    }

    static void unsupported(String call, Supplier<RelayBench> maker, Consumer<RelayBench> body) {
        refuses(UnsupportedOperationException.class, call, maker, body);
    }

    /** A wrong argument that no bench takes, whatever is on it and however it stands. */
    static void badEverywhere(String call, Consumer<RelayBench> body) {
        Benches.ALL.forEach((name, maker) -> badArgument(call + " of a bench that is " + name, maker, body));
    }

    /** The call has to answer this and change nothing. */
    static void looks(String call, Supplier<RelayBench> maker, ToLongFunction<RelayBench> body, long due) {
        RelayBench x = maker.get();
        same(call, body.applyAsLong(x), due);
        sameStory(call + " when only looking", x, maker.get());
    }

    private static void sameStory(String call, RelayBench x, RelayBench twin) {
        List<String> got = Story.of(x);
        List<String> due = Story.of(twin);
        for (int k = 0; k < due.size() && k < got.size(); k++) {
            if (!got.get(k).equals(due.get(k))) {
                complain(call + " left " + got.get(k) + ", due is " + due.get(k));
                return;
            }
        }
        same(call + " left so much to see", got.size(), due.size());
    }

    private static void complain(String text) {
        wrong++;
        System.out.println(running + ": " + text);
    }
}
