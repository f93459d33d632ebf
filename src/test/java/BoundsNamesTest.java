import java.lang.reflect.Method;
import java.util.Set;
import java.util.TreeSet;

/** Each promise has cases of its own among the tests of the boundaries. */
public final class BoundsNamesTest {
    private static final int PROMISES = 29;
    private static final Class<?>[] BOUNDS = {BoundsOfTermsTest.class, BoundsOfPagesTest.class,
        BoundsOfFoldsTest.class, BoundsOfFontsTest.class, BoundsOfProofsTest.class, BoundsOfPlatesTest.class};

    public static void main(String[] args) {
        Due due = new Due();
        Set<String> begins = new TreeSet<>();
        for (Class<?> one : BOUNDS) {
            for (Method method : one.getDeclaredMethods()) {
                begins.add(method.getName().replaceAll("_.*", ""));
            }
        }
        for (int promise = 1; promise <= PROMISES; promise++) {
            String begin = promise < 10 ? "p0" + promise : "p" + promise;
            if (!begins.contains(begin)) {
                due.tell("no case of the promise " + promise);
            }
        }
        if (!begins.contains("terms")) {
            due.tell("no case of the terms");
        }
        due.end();
    }
}
