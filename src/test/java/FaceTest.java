import java.lang.reflect.Constructor;
import java.lang.reflect.Field;
import java.lang.reflect.Method;
import java.lang.reflect.Modifier;
import java.util.HashSet;
import java.util.Set;
import java.util.TreeSet;

/** The public face: the members of the document, with what they may throw, and no other. */
public final class FaceTest {
    /** Behind each method stand the exceptions that it tells, in their order, without the end that all names have. */
    private static final String[] METHODS = {
        "int insert(int,int,int) IndexOutOfBounds IllegalArgument IllegalState", "int remove(int) IndexOutOfBounds",
        "void move(int,int) IndexOutOfBounds", "int edit(int,int,int) IndexOutOfBounds IllegalArgument",
        "int replace(int,int) IllegalArgument", "int pages()", "int edition(int) IndexOutOfBounds",
        "int setFolds(int,int) IllegalArgument", "int sheets()", "int rows()", "int columns()",
        "int pageAt(int,int,int,int) IndexOutOfBounds IllegalArgument",
        "int pageByRule(int,int,int,int) IndexOutOfBounds IllegalArgument", "int leafOf(int) IndexOutOfBounds",
        "boolean isTurned(int) IndexOutOfBounds", "int setRight(int,int,int) IllegalArgument",
        "int withdraw(int) IllegalArgument IllegalState", "int pass(int) IllegalArgument", "int today()",
        "boolean mayUse(int) IllegalArgument", "int prove(int,int) IndexOutOfBounds IllegalArgument IllegalState",
        "boolean judge(int,int,boolean) IndexOutOfBounds IllegalArgument IllegalState",
        "int proof(int,int) IndexOutOfBounds IllegalArgument", "boolean isReady(int) IndexOutOfBounds",
        "int makePlates(int) IndexOutOfBounds IllegalState", "int wear(int,int,int) IndexOutOfBounds IllegalArgument",
        "int print(int,int) IndexOutOfBounds IllegalArgument IllegalState", "int plates()"};
    private static final String[] CONSTANTS = {
        "RIGHT=0", "LEFT=1", "BOTTOM=2", "TOP=3", "NONE=0", "MADE=1", "APPROVED=2", "REFUSED=3"};

    private static final Due due = new Due();

    public static void main(String[] args) throws IllegalAccessException {
        methods();
        constants();
        constructors();
        if (!Modifier.isFinal(ProofSheet.class.getModifiers())) {
            due.tell("the class is not final");
        }
        due.end();
    }

    private static void methods() {
        Set<String> found = new TreeSet<>();
        Set<String> faceNames = new HashSet<>();
        for (Method method : ProofSheet.class.getDeclaredMethods()) {
            if (!Modifier.isPrivate(method.getModifiers())) {
                found.add(described(method));
                faceNames.add(method.getName());
            }
        }
        same("methods", found, new TreeSet<>(Set.of(METHODS)));
        Set<Class<?>> all = new HashSet<>(Set.of(ProofSheet.class.getDeclaredClasses()));
        all.add(ProofSheet.class);
        for (Class<?> one : all) {
            for (Method method : one.getDeclaredMethods()) {
                boolean inFace = one == ProofSheet.class && Modifier.isPublic(method.getModifiers());
                if (!inFace && faceNames.contains(method.getName())) {
                    due.tell("a method of its own bears the name " + method.getName());
                }
            }
        }
    }

    private static String described(Method method) {
        StringBuilder text = new StringBuilder();
        text.append(method.getReturnType().getName()).append(' ').append(method.getName()).append('(');
        String comma = "";
        for (Class<?> type : method.getParameterTypes()) {
            text.append(comma).append(type.getName());
            comma = ",";
        }
        text.append(')');
        for (Class<?> type : method.getExceptionTypes()) {
            text.append(' ').append(type.getSimpleName().replaceAll("Exception$", ""));
        }
        return text.toString();
    }

    private static void constants() throws IllegalAccessException {
        Set<String> found = new TreeSet<>();
        for (Field field : ProofSheet.class.getDeclaredFields()) {
            if (Modifier.isPrivate(field.getModifiers())) {
                continue;
            }
            if (!Modifier.isStatic(field.getModifiers()) || !Modifier.isFinal(field.getModifiers())) {
                due.tell(field.getName() + " is no constant");
                continue;
            }
            found.add(field.getName() + "=" + field.getInt(null));
        }
        same("constants", found, new TreeSet<>(Set.of(CONSTANTS)));
    }

    private static void constructors() {
        Constructor<?>[] found = ProofSheet.class.getDeclaredConstructors();
        boolean asDue = found.length == 1 && Modifier.isPublic(found[0].getModifiers())
                && found[0].getParameterCount() == 0;
        if (!asDue) {
            due.tell("the constructor is not the one that is due");
        }
    }

    private static void same(String what, Set<String> got, Set<String> want) {
        if (!got.equals(want)) {
            due.tell(what + ": found " + got + ", due is " + want);
        }
    }
}
