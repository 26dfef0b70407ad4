import java.lang.reflect.Constructor;
import java.lang.reflect.Field;
import java.lang.reflect.Method;
import java.lang.reflect.Modifier;
import java.util.Arrays;
import java.util.Set;
import java.util.TreeSet;

/** The public face of the class, as the document and rule 1 of LANGUAGE.md ask for it. */
public final class FaceTest {
    private static final String INDEX = "IndexOutOfBoundsException";
    private static final String ARGUMENT = "IllegalArgumentException";
    private static final String STATE = "IllegalStateException";

    private static final Set<String> DUE = new TreeSet<>(Arrays.asList(
        "int tell(int, int, int) " + ARGUMENT + " " + STATE,
        "int pass(int) " + ARGUMENT + " " + STATE,
        "int today()",
        "int offer(int, int) " + ARGUMENT,
        "int make(int, int, int, int) " + ARGUMENT + " " + STATE,
        "int pay(int) " + INDEX + " " + STATE,
        "int change(int, int, int, int) " + INDEX + " " + ARGUMENT + " " + STATE,
        "int backdate(int, int) " + INDEX + " " + ARGUMENT + " " + STATE,
        "int contracts()",
        "int waiting()",
        "boolean isInForce(int) " + INDEX,
        "long units(int, int) " + INDEX + " " + ARGUMENT,
        "long initial(int) " + INDEX,
        "long worth(int) " + INDEX,
        "int paid(int) " + INDEX,
        "long fundUnits(int) " + ARGUMENT,
        "long charged()",
        "long madeGood()"));

    private FaceTest() {
    }

    public static void main(String[] args) {
        Class<?> face = UnitContracts.class;
        Check.yes("the class is public and final",
            Modifier.isPublic(face.getModifiers()) && Modifier.isFinal(face.getModifiers()));
        constructors(face);
        methods(face);
        fields(face);
        classesInside(face);
        Check.end();
    }

    private static void constructors(Class<?> face) {
        Constructor<?>[] all = face.getDeclaredConstructors();
        Check.same("constructors", all.length, 1);
        Check.yes("the constructor is public", Modifier.isPublic(all[0].getModifiers()));
        Check.same("its parameters", all[0].getParameterCount(), 0);
    }

    private static void methods(Class<?> face) {
        Set<String> got = new TreeSet<>();
        Set<String> names = new TreeSet<>();
        for (Method method : face.getDeclaredMethods()) {
            if (Modifier.isPublic(method.getModifiers())) {
                got.add(told(method));
                names.add(method.getName());
            }
        }
        Check.yes("the public methods " + got + " are " + DUE, got.equals(DUE));
        for (Method method : face.getDeclaredMethods()) {
            int kind = method.getModifiers();
            if (!Modifier.isPublic(kind) && !method.isSynthetic()) {
                Check.yes(method + " is private", Modifier.isPrivate(kind));
                Check.yes(method + " has a name of its own", !names.contains(method.getName()));
            }
        }
    }

    private static String told(Method method) {
        StringBuilder text = new StringBuilder();
        text.append(method.getReturnType()).append(' ').append(method.getName()).append('(');
        for (int i = 0; i < method.getParameterCount(); i++) {
            text.append(i == 0 ? "" : ", ").append(method.getParameterTypes()[i]);
        }
        text.append(')');
        for (Class<?> thrown : method.getExceptionTypes()) {
            text.append(' ').append(thrown.getSimpleName());
        }
        return text.toString();
    }

    private static void fields(Class<?> face) {
        for (Field field : face.getDeclaredFields()) {
            int kind = field.getModifiers();
            Check.yes(field + " is private", Modifier.isPrivate(kind));
            Check.yes(field + " is no static state", !Modifier.isStatic(kind) || Modifier.isFinal(kind));
        }
    }

    private static void classesInside(Class<?> face) {
        Check.yes("some twelve classes at most", face.getDeclaredClasses().length <= 12);
        for (Class<?> inside : face.getDeclaredClasses()) {
            int kind = inside.getModifiers();
            Check.yes(inside + " is static and not public",
                Modifier.isStatic(kind) && !Modifier.isPublic(kind) && !Modifier.isProtected(kind));
            for (Field field : inside.getDeclaredFields()) {
                int fieldKind = field.getModifiers();
                Check.yes(field + " is no static state",
                    !Modifier.isStatic(fieldKind) || Modifier.isFinal(fieldKind));
            }
        }
    }
}
