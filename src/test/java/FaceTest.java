import java.lang.reflect.Constructor;
import java.lang.reflect.Field;
import java.lang.reflect.Method;
import java.lang.reflect.Modifier;
import java.util.Arrays;
import java.util.Set;
import java.util.TreeSet;

/** The public face: the document's members, and no other that is not private. */
public final class FaceTest {
    private static final String ARGUMENT = " throws IllegalArgumentException";
    private static final String STATE = " IllegalStateException";
    private static final String FAILED = " UnsupportedOperationException";
    private static final String INDEX = " throws IndexOutOfBoundsException";

    private static final Set<String> FACE = new TreeSet<>(Arrays.asList(
            "int account(int)" + ARGUMENT + STATE,
            "int batch(int, int)" + ARGUMENT + STATE,
            "boolean row(int, int, long)",
            "boolean fails(int, boolean)",
            "int post(int)" + ARGUMENT + STATE + FAILED,
            "int reverse(int, int)" + ARGUMENT + STATE,
            "boolean close(int)",
            "long balance(int, int, int)" + ARGUMENT,
            "long statement(int, int, int)" + ARGUMENT,
            "boolean part(int, int, int)",
            "boolean cost(int, int)",
            "long passed(int, int, int)" + ARGUMENT,
            "long reconcile(int, int, int, int)" + ARGUMENT,
            "long read(int, int)" + INDEX,
            "int look(int, int)" + INDEX,
            "int count(int)"));

    public static void main(String[] args) {
        methods();
        constructorsAndFields();
        nestedClasses();
        Check.finish();
    }

    private static void methods() {
        Set<String> got = new TreeSet<>();
        Set<String> names = new TreeSet<>();
        for (Method method : DutyLedger.class.getDeclaredMethods()) {
            if (Modifier.isPrivate(method.getModifiers())) {
                continue;
            }
            Check.yes(method + " is public", Modifier.isPublic(method.getModifiers()));
            Check.no(method + " is static", Modifier.isStatic(method.getModifiers()));
            got.add(told(method));
            names.add(method.getName());
        }
        if (!got.equals(FACE)) {
            Check.tell("the methods are " + got + ", due are " + FACE);
        }
        for (Method method : DutyLedger.class.getDeclaredMethods()) {
            Check.no(method + " is private with a public one's name",
                    Modifier.isPrivate(method.getModifiers()) && names.contains(method.getName()));
        }
    }

    private static String told(Method method) {
        StringBuilder text = new StringBuilder();
        text.append(method.getReturnType()).append(' ').append(method.getName()).append('(');
        String between = "";
        for (Class<?> type : method.getParameterTypes()) {
            text.append(between).append(type);
            between = ", ";
        }
        text.append(')');
        String word = " throws ";
        for (Class<?> type : method.getExceptionTypes()) {
            text.append(word).append(type.getSimpleName());
            word = " ";
        }
        return text.toString();
    }

    private static void constructorsAndFields() {
        Check.yes("the class is final", Modifier.isFinal(DutyLedger.class.getModifiers()));
        Check.due("NONE", DutyLedger.NONE, -1);
        Constructor<?>[] constructors = DutyLedger.class.getDeclaredConstructors();
        Check.due("constructors", constructors.length, 1);
        Check.due("its parameters", constructors[0].getParameterCount(), 0);
        Check.yes("it is public", Modifier.isPublic(constructors[0].getModifiers()));
        for (Field field : DutyLedger.class.getDeclaredFields()) {
            boolean isNone = field.getName().equals("NONE");
            int due = isNone ? Modifier.PUBLIC | Modifier.STATIC | Modifier.FINAL : 0;
            Check.yes(field + " is private, or NONE",
                    isNone ? field.getModifiers() == due : Modifier.isPrivate(field.getModifiers()));
            Check.yes(field + " is final if it is static",
                    !Modifier.isStatic(field.getModifiers()) || Modifier.isFinal(field.getModifiers()));
        }
    }

    private static void nestedClasses() {
        for (Class<?> inside : DutyLedger.class.getDeclaredClasses()) {
            int modifiers = inside.getModifiers();
            Check.no(inside + " is public or protected",
                    Modifier.isPublic(modifiers) || Modifier.isProtected(modifiers));
            Check.yes(inside + " is static", Modifier.isStatic(modifiers));
        }
    }
}
