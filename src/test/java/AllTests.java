import java.lang.reflect.InvocationTargetException;
import java.lang.reflect.Method;
import java.lang.reflect.Modifier;
import java.util.Arrays;
import java.util.Comparator;

/** Runs every static method without parameters of the test classes as a test; takes the path of CardTerminal.java. */
public final class AllTests {
    private static final Class<?>[] TESTS = {
        ExamplesTest.class, BufferTest.class, ReadingTest.class, ObjectsTest.class, CardTest.class,
        TerminalTest.class, CandidatesTest.class, StartTest.class, AnswerTest.class, ReversalsTest.class,
        TotalsTest.class, NoMoreTest.class, ModelTest.class, FaceTest.class, LanguageTest.class,
        ReadmeTest.class,
    };

    private static final int LIMIT_IN_SECONDS = Integer.getInteger("limit", 300);

    private AllTests() {
    }

    static Class<?>[] tests() {
        return TESTS.clone();
    }

    public static void main(String[] args) throws Exception {
        if (args.length > 0) {
            LanguageTest.source = args[0];
        }
        watch();
        int passed = 0;
        int failed = 0;
        for (Class<?> tests : TESTS) {
            for (Method test : testsOf(tests)) {
                if (passes(test)) {
                    passed++;
                } else {
                    failed++;
                    System.out.println("FAILED " + tests.getSimpleName() + "." + test.getName());
                }
            }
        }
        System.out.println("own: " + passed + " passed, " + failed + " failed");
        System.exit(failed == 0 && passed > 0 ? 0 : 1);
    }

    /** A call that does not end must fail the tests, not hold them up. */
    private static void watch() {
        Thread watcher = new Thread(() -> {
            try {
                Thread.sleep(LIMIT_IN_SECONDS * 1000L);
            } catch (InterruptedException e) {
                return;
            }
            System.out.println("FAILED: the tests have not ended in " + LIMIT_IN_SECONDS + " seconds");
            Runtime.getRuntime().halt(1);
        });
        watcher.setDaemon(true);
        watcher.start();
    }

    private static Method[] testsOf(Class<?> tests) {
        // Reflection gives the methods in no fixed order.
        return Arrays.stream(tests.getDeclaredMethods())
            .filter(m -> Modifier.isStatic(m.getModifiers()) && !Modifier.isPrivate(m.getModifiers()))
            .filter(m -> m.getParameterCount() == 0 && !m.isSynthetic())
            .sorted(Comparator.comparing(Method::getName))
            .toArray(Method[]::new);
    }

    private static boolean passes(Method test) throws IllegalAccessException {
        Checks.begin();
        try {
            test.invoke(null);
        } catch (InvocationTargetException e) {
            e.getCause().printStackTrace(System.out);
            return false;
        }
        return Checks.allGood();
    }
}
