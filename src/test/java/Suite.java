import java.lang.reflect.InvocationTargetException;
import java.lang.reflect.Method;
import java.util.ArrayList;
import java.util.Comparator;
import java.util.List;

/** Runs the tests of a class: its methods that say a sentence of the document. */
final class Suite {
    private Suite() {
    }

    static void run(Class<?> tests) {
        int asked = 0;
        int failed = 0;
        List<Method> all = testsOf(tests);
        for (Method test : all) {
            Due due = new Due(test.getName());
            call(test, due);
            due.is("asks anything", 1, due.asked() > 0 ? 1 : 0);
            asked += due.asked();
            if (due.wrong() > 0) {
                failed++;
                System.out.println("FAILED " + tests.getName() + "." + test.getName() + ": "
                    + String.join(" / ", test.getAnnotation(Says.class).value()));
            }
        }
        System.out.println(all.size() + " tests, " + asked + " answers, " + failed + " tests failed");
        if (failed > 0 || all.isEmpty()) {
            System.exit(1);
        }
    }

    /** A test that breaks off fails, and the others go on. */
    private static void call(Method test, Due due) {
        try {
            test.invoke(null, due);
        } catch (InvocationTargetException e) {
            due.is("breaks off by " + e.getCause(), 0, 1);
        } catch (IllegalAccessException e) {
            throw new IllegalStateException(e);
        }
    }

    static List<Method> testsOf(Class<?> tests) {
        List<Method> all = new ArrayList<>();
        for (Method m : tests.getDeclaredMethods()) {
            if (m.isAnnotationPresent(Says.class)) all.add(m);
        }
        all.sort(Comparator.comparing(Method::getName));
        return all;
    }
}
