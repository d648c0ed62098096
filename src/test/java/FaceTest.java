import java.lang.reflect.Constructor;
import java.lang.reflect.Field;
import java.lang.reflect.Method;
import java.lang.reflect.Modifier;
import java.util.HashSet;
import java.util.Set;
import java.util.TreeSet;

/** The public face is what the document says, with its throws clauses, and nothing more. */
public final class FaceTest {
    private static final Checks CHECKS = new Checks();
    private static final String[] FACE = {
        "int dig(int, int, int, int) IndexOutOfBoundsException IllegalArgumentException IllegalStateException",
        "boolean setGate(int, boolean) IndexOutOfBoundsException",
        "int setMark(int, int) IndexOutOfBoundsException IllegalArgumentException",
        "int rain(int, int) IndexOutOfBoundsException IllegalArgumentException",
        "int dry(int) IllegalArgumentException",
        "int settle(int) IllegalArgumentException",
        "int setOut(int, int, int) IndexOutOfBoundsException IllegalArgumentException IllegalStateException",
        "int move(int) IllegalArgumentException IllegalStateException",
        "int canals()",
        "int water(int) IndexOutOfBoundsException",
        "int allWater()",
        "int spilt()",
        "int cost(int) IndexOutOfBoundsException",
        "boolean canPass(int) IndexOutOfBoundsException",
        "int distance(int, int) IndexOutOfBoundsException",
        "int canalTo(int, int) IndexOutOfBoundsException",
        "boolean areStill()",
        "int cheapest(int, int) IndexOutOfBoundsException",
        "boolean isLoop(int, int) IndexOutOfBoundsException",
        "int loops()",
        "int barges()",
        "int ticks()",
        "int state(int) IndexOutOfBoundsException",
        "int basinOf(int) IndexOutOfBoundsException",
        "int hops(int) IndexOutOfBoundsException",
        "int life(int) IndexOutOfBoundsException",
        "int repeats(int) IndexOutOfBoundsException",
        "int queue(int) IndexOutOfBoundsException",
        "int queued(int, int) IndexOutOfBoundsException IllegalArgumentException",
        "int laidBy()",
    };

    public static void main(String[] args) {
        theClass();
        theMethods();
        noOtherMembers();
        noStaticState(LockgateRouter.class);
        for (Class<?> inside : LockgateRouter.class.getDeclaredClasses()) {
            noStaticState(inside);
            CHECKS.same(inside.getName() + " is static", true, Modifier.isStatic(inside.getModifiers()));
            CHECKS.same(inside.getName() + " is not public", false, Modifier.isPublic(inside.getModifiers()));
        }
        CHECKS.end("FaceTest");
    }

    private static void theClass() {
        CHECKS.same("public and final", Modifier.PUBLIC | Modifier.FINAL, LockgateRouter.class.getModifiers());
        CHECKS.same("no package", "", LockgateRouter.class.getPackageName());
        Constructor<?>[] constructors = LockgateRouter.class.getDeclaredConstructors();
        CHECKS.same("one constructor", 1, constructors.length);
        CHECKS.same("it is public", Modifier.PUBLIC, constructors[0].getModifiers());
        CHECKS.same("without parameters", 0, constructors[0].getParameterCount());
    }

    private static void theMethods() {
        Set<String> got = new TreeSet<>();
        for (Method method : LockgateRouter.class.getDeclaredMethods()) {
            if (!Modifier.isPrivate(method.getModifiers())) {
                got.add(faceOf(method));
            }
        }
        CHECKS.same("methods", new TreeSet<>(Set.of(FACE)).toString(), got.toString());
    }

    private static String faceOf(Method method) {
        StringBuilder text = new StringBuilder();
        text.append(method.getReturnType().getName()).append(' ').append(method.getName()).append('(');
        for (int i = 0; i < method.getParameterCount(); i++) {
            text.append(i == 0 ? "" : ", ").append(method.getParameterTypes()[i].getName());
        }
        text.append(')');
        for (Class<?> thrown : method.getExceptionTypes()) {
            text.append(' ').append(thrown.getSimpleName());
        }
        return text.toString();
    }

    private static void noOtherMembers() {
        Set<String> publicNames = new HashSet<>();
        for (Method method : LockgateRouter.class.getDeclaredMethods()) {
            if (Modifier.isPublic(method.getModifiers())) {
                CHECKS.same(method.getName() + " is not static", false, Modifier.isStatic(method.getModifiers()));
                publicNames.add(method.getName());
            }
        }
        for (Method method : LockgateRouter.class.getDeclaredMethods()) {
            if (Modifier.isPrivate(method.getModifiers())) {
                CHECKS.same(method.getName() + " is a public name", false, publicNames.contains(method.getName()));
            }
        }
        for (Field field : LockgateRouter.class.getDeclaredFields()) {
            CHECKS.same(field.getName() + " is private", true, Modifier.isPrivate(field.getModifiers()));
        }
    }

    private static void noStaticState(Class<?> owner) {
        for (Field field : owner.getDeclaredFields()) {
            if (Modifier.isStatic(field.getModifiers())) {
                CHECKS.same(field.getName() + " is final", true, Modifier.isFinal(field.getModifiers()));
            }
        }
    }
}
