import java.lang.reflect.Constructor;
import java.lang.reflect.Field;
import java.lang.reflect.Method;
import java.lang.reflect.Modifier;
import java.util.Arrays;
import java.util.Set;
import java.util.TreeSet;

/** The public members are those of the document, and no others; what else there is, is private. */
public final class FaceTest {
    private static final Checks checks = new Checks("FaceTest");

    private static final String RANGE = " IllegalArgumentException";
    private static final String STATE = " IllegalArgumentException IllegalStateException";

    private static final String[] FACE = {
        "int create(int)" + STATE,
        "int join(int,int)" + STATE,
        "int fail(int)" + STATE,
        "int leave(int)" + STATE,
        "int living()",
        "boolean isLiving(int)" + RANGE,
        "int successor(int,int)" + STATE,
        "int liveSuccessor(int)" + STATE,
        "int predecessor(int)" + STATE,
        "int finger(int,int)" + STATE,
        "boolean check(int)" + STATE,
        "int stabilize(int)" + STATE,
        "int fix(int)" + STATE,
        "int replicate(int)" + STATE,
        "int goRounds(int)" + RANGE,
        "int lookup(int,int)" + STATE,
        "int hops(int,int)" + STATE,
        "int hopAt(int,int,int)" + STATE + " IndexOutOfBoundsException",
        "int put(int,int,int)" + STATE,
        "int get(int,int)" + STATE,
        "int kept(int,int)" + STATE,
        "int keepers(int)" + RANGE,
        "int owner(int)" + RANGE,
        "int wrongPointers()",
        "int roundsToRight(int)" + RANGE,
    };

    public static void main(String[] args) {
        Class<?> face = ChordOverlay.class;
        checks.same("modifiers", Modifier.toString(face.getModifiers()), "public final");
        checks.same("package", face.getPackageName(), "");
        constructors(face);
        methods(face);
        fields(face);
        insideClasses(face);
        checks.tell();
    }

    private static void constructors(Class<?> face) {
        checks.same("constructors", face.getDeclaredConstructors().length, 1);
        for (Constructor<?> each : face.getDeclaredConstructors()) {
            checks.same("constructor", each.toString(), "public ChordOverlay()");
        }
    }

    private static void methods(Class<?> face) {
        Set<String> names = new TreeSet<>();
        Set<String> found = new TreeSet<>();
        for (Method each : face.getDeclaredMethods()) {
            if (Modifier.isPublic(each.getModifiers())) {
                names.add(each.getName());
                found.add(written(each));
                checks.same("modifiers of " + each.getName(), Modifier.toString(each.getModifiers()), "public");
            }
        }
        checks.same("the face", found.toString(), new TreeSet<>(Arrays.asList(FACE)).toString());
        for (Method each : face.getDeclaredMethods()) {
            if (!Modifier.isPublic(each.getModifiers())) {
                checks.same(each + " is private", Modifier.isPrivate(each.getModifiers()), true);
                checks.same(each + " bears a public name", names.contains(each.getName()), false);
            }
        }
    }

    private static String written(Method method) {
        StringBuilder text = new StringBuilder();
        text.append(method.getReturnType().getSimpleName()).append(' ').append(method.getName()).append('(');
        for (int i = 0; i < method.getParameterCount(); i++) {
            text.append(i == 0 ? "" : ",").append(method.getParameterTypes()[i].getSimpleName());
        }
        text.append(')');
        for (Class<?> thrown : method.getExceptionTypes()) {
            text.append(' ').append(thrown.getSimpleName());
        }
        return text.toString();
    }

    private static void fields(Class<?> owner) {
        for (Field each : owner.getDeclaredFields()) {
            checks.same(each + " is private", Modifier.isPrivate(each.getModifiers()), true);
            if (Modifier.isStatic(each.getModifiers())) {
                checks.same(each + " is final", Modifier.isFinal(each.getModifiers()), true);
            }
        }
    }

    private static void insideClasses(Class<?> face) {
        for (Class<?> each : face.getDeclaredClasses()) {
            int modifiers = each.getModifiers();
            checks.same(each + " is static", Modifier.isStatic(modifiers), true);
            checks.same(each + " is public or protected",
                    Modifier.isPublic(modifiers) || Modifier.isProtected(modifiers), false);
            fields(each);
        }
    }
}
