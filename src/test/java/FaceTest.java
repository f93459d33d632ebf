import java.lang.reflect.Constructor;
import java.lang.reflect.Field;
import java.lang.reflect.Method;
import java.lang.reflect.Modifier;
import java.util.HashSet;
import java.util.Set;
import java.util.TreeSet;

/** The public face: the members of the document, and no other. */
public final class FaceTest {
    private static final String[] METHODS = {
        "int insert(int,int,int)", "int remove(int)", "void move(int,int)", "int edit(int,int,int)",
        "int replace(int,int)", "int pages()", "int edition(int)", "int setFolds(int,int)", "int sheets()",
        "int rows()", "int columns()", "int pageAt(int,int,int,int)", "int pageByRule(int,int,int,int)",
        "int leafOf(int)", "boolean isTurned(int)", "int setRight(int,int,int)", "int withdraw(int)",
        "int pass(int)", "int today()", "boolean mayUse(int)", "int prove(int,int)",
        "boolean judge(int,int,boolean)", "int proof(int,int)", "boolean isReady(int)", "int makePlates(int)",
        "int wear(int,int,int)", "int print(int,int)", "int plates()"};
    private static final String[] CONSTANTS = {
        "RIGHT=0", "LEFT=1", "BOTTOM=2", "TOP=3", "NONE=0", "MADE=1", "APPROVED=2", "REFUSED=3"};

    private static final Due due = new Due();

    public static void main(String[] args) throws IllegalAccessException {
        methods();
        constants();
        constructors();
        if (!Modifier.isFinal(ProofSheet.class.getModifiers())) {
            due.tell("the class is not final");
        }
        due.end();
    }

    private static void methods() {
        Set<String> found = new TreeSet<>();
        Set<String> faceNames = new HashSet<>();
        for (Method method : ProofSheet.class.getDeclaredMethods()) {
            if (!Modifier.isPrivate(method.getModifiers())) {
                found.add(described(method));
                faceNames.add(method.getName());
            }
        }
        same("methods", found, new TreeSet<>(Set.of(METHODS)));
        Set<Class<?>> all = new HashSet<>(Set.of(ProofSheet.class.getDeclaredClasses()));
        all.add(ProofSheet.class);
        for (Class<?> one : all) {
            for (Method method : one.getDeclaredMethods()) {
                boolean inFace = one == ProofSheet.class && Modifier.isPublic(method.getModifiers());
                if (!inFace && faceNames.contains(method.getName())) {
                    due.tell("a method of its own bears the name " + method.getName());
                }
            }
        }
    }

    private static String described(Method method) {
        StringBuilder text = new StringBuilder();
        text.append(method.getReturnType().getName()).append(' ').append(method.getName()).append('(');
        String comma = "";
        for (Class<?> type : method.getParameterTypes()) {
            text.append(comma).append(type.getName());
            comma = ",";
        }
        return text.append(')').toString();
    }

    private static void constants() throws IllegalAccessException {
        Set<String> found = new TreeSet<>();
        for (Field field : ProofSheet.class.getDeclaredFields()) {
            if (Modifier.isPrivate(field.getModifiers())) {
                continue;
            }
            if (!Modifier.isStatic(field.getModifiers()) || !Modifier.isFinal(field.getModifiers())) {
                due.tell(field.getName() + " is no constant");
                continue;
            }
            found.add(field.getName() + "=" + field.getInt(null));
        }
        same("constants", found, new TreeSet<>(Set.of(CONSTANTS)));
    }

    private static void constructors() {
        Constructor<?>[] found = ProofSheet.class.getDeclaredConstructors();
        boolean asDue = found.length == 1 && Modifier.isPublic(found[0].getModifiers())
                && found[0].getParameterCount() == 0;
        if (!asDue) {
            due.tell("the constructor is not the one that is due");
        }
    }

    private static void same(String what, Set<String> got, Set<String> want) {
        if (!got.equals(want)) {
            due.tell(what + ": found " + got + ", due is " + want);
        }
    }
}
