import java.lang.reflect.InvocationTargetException;
import java.lang.reflect.Method;
import java.util.ArrayList;
import java.util.Comparator;
import java.util.List;

/**
 * Runs the cases of a test: its methods without arguments whose names begin with a promise, as p02_, or with terms_.
 * The name of a case tells the promise, and behind it the boundary that it is about.
 */
final class Cases {
    private static String current = "";
    private static int faults;

    private Cases() {
    }

    /** Runs all cases, prints what is wrong by their names, and ends the machine with 1 if anything was. */
    static void run(Class<?> test) {
        List<Method> cases = new ArrayList<>();
        for (Method method : test.getDeclaredMethods()) {
            if (method.getParameterCount() == 0 && method.getName().matches("(p\\d\\d|terms)_\\w+")) {
                cases.add(method);
            }
        }
        cases.sort(Comparator.comparing(Method::getName));
        for (Method one : cases) {
            runOne(one);
        }
        if (cases.isEmpty()) {
            fault("there are no cases");
        }
        if (faults > 0) {
            System.out.println(faults + " wrong");
            System.exit(1);
        }
    }

    private static void runOne(Method one) {
        current = one.getName();
        try {
            one.setAccessible(true);
            one.invoke(null);
        } catch (InvocationTargetException e) {
            fault("threw " + e.getCause());
        } catch (IllegalAccessException e) {
            fault("can't be called");
        }
    }

    /** Tells a fault of the case that runs, with the line of the test. */
    static void fault(String what) {
        faults++;
        String line = StackWalker.getInstance().walk(frames -> frames
                .filter(frame -> frame.getMethodName().equals(current))
                .map(frame -> ", line " + frame.getLineNumber()).findFirst().orElse(""));
        if (faults <= 50) {
            System.out.println(current + line + ": " + what);
        }
    }
}
