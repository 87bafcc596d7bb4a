import java.lang.reflect.Constructor;
import java.lang.reflect.Field;
import java.lang.reflect.Method;
import java.lang.reflect.Modifier;
import java.util.Arrays;
import java.util.Set;
import java.util.TreeSet;

/** The public face: the constants, the constructor and the methods of the document, and no others. */
public final class FaceTest {
    private static final Checks CHECKS = new Checks();
    private static final Set<String> METHODS = new TreeSet<>(Arrays.asList(
        "int format(int)", "int addKey(int,int)", "int removeKey(int)", "int secretOf(int)", "int setZone(int)",
        "int setJournal(int)", "int start(int)", "int steps(int)", "int turnBack()", "int write(int,int)",
        "int flush()", "int fail()", "int count(int)", "int read(int)", "int stored(int)", "int keyOf(int)",
        "int journal(int)", "int cached(int)", "int zoneStart()", "int damaged()", "int firstDamaged()",
        "int stepsLeft()", "int ifFailed(int)", "int worstTime()", "int ifFlushed(int)", "int type(int)",
        "int clearText()", "int syntaxError()", "int carryOut()", "int undo()", "long digest()"));

    public static void main(String[] args) {
        constants();
        CHECKS.holds("the class is public and final", Modifier.isPublic(DiskRekeying.class.getModifiers())
            && Modifier.isFinal(DiskRekeying.class.getModifiers()));
        methods();
        fields();
        constructors();
        innerClasses();
        CHECKS.end();
    }

    private static void constants() {
        CHECKS.due("NO_SUCH", DiskRekeying.NO_SUCH, -1);
        CHECKS.due("BAD_VALUE", DiskRekeying.BAD_VALUE, -2);
        CHECKS.due("NOT_POSSIBLE", DiskRekeying.NOT_POSSIBLE, -3);
        CHECKS.due("LIMIT", DiskRekeying.LIMIT, -4);
        CHECKS.due("BAD_TEXT", DiskRekeying.BAD_TEXT, -5);
        CHECKS.due("NONE", DiskRekeying.NONE, -6);
    }

    private static void methods() {
        Set<String> found = new TreeSet<>();
        Set<String> names = new TreeSet<>();
        for (Method method : DiskRekeying.class.getDeclaredMethods()) {
            if (!Modifier.isPrivate(method.getModifiers())) {
                names.add(method.getName());
                found.add(method.getReturnType() + " " + method.getName() + "("
                    + String.join(",", Arrays.stream(method.getParameterTypes()).map(Class::getName).toList()) + ")");
                CHECKS.holds(method + " is public and of the object", Modifier.isPublic(method.getModifiers())
                    && !Modifier.isStatic(method.getModifiers()));
            }
        }
        CHECKS.holds("the methods are those of the document: " + found, found.equals(METHODS));
        for (Method method : DiskRekeying.class.getDeclaredMethods()) {
            CHECKS.holds(method + " does not bear a public name", !Modifier.isPrivate(method.getModifiers())
                || !names.contains(method.getName()));
        }
    }

    private static void fields() {
        Set<String> found = new TreeSet<>();
        for (Field field : DiskRekeying.class.getDeclaredFields()) {
            if (!Modifier.isPrivate(field.getModifiers())) {
                found.add(field.getName());
            }
            CHECKS.holds(field + " is final", Modifier.isFinal(field.getModifiers()));
        }
        CHECKS.holds("the constants are those of the document: " + found, found.equals(new TreeSet<>(
            Arrays.asList("NO_SUCH", "BAD_VALUE", "NOT_POSSIBLE", "LIMIT", "BAD_TEXT", "NONE"))));
    }

    private static void constructors() {
        Constructor<?>[] found = DiskRekeying.class.getDeclaredConstructors();
        CHECKS.due("number of constructors", found.length, 1);
        CHECKS.holds("the constructor is public", Modifier.isPublic(found[0].getModifiers()));
        CHECKS.due("parameters of the constructor", found[0].getParameterCount(), 0);
    }

    private static void innerClasses() {
        for (Class<?> inner : DiskRekeying.class.getDeclaredClasses()) {
            CHECKS.holds(inner + " is static and not public", Modifier.isStatic(inner.getModifiers())
                && !Modifier.isPublic(inner.getModifiers()));
            for (Method method : inner.getDeclaredMethods()) {
                boolean bears = METHODS.stream().anyMatch(face -> face.contains(" " + method.getName() + "("));
                CHECKS.holds(method + " does not bear a public name", !bears);
            }
        }
    }
}
