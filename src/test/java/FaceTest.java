import java.lang.reflect.Constructor;
import java.lang.reflect.Field;
import java.lang.reflect.Method;
import java.lang.reflect.Modifier;
import java.util.ArrayList;
import java.util.Arrays;
import java.util.List;
import java.util.TreeSet;

/** The public face is just that of the document: nothing more, nothing less. */
public final class FaceTest {
    private static final String N = "java.util.NoSuchElementException";
    private static final String A = "java.lang.IllegalArgumentException";
    private static final String S = "java.lang.IllegalStateException";
    private static final String[] FACE = {
        "int feed(int, int, int, int, int)",
        "int text(int) " + A,
        "int fault()",
        "int open(int, int, int, int) " + N + " " + A + " " + S,
        "int contact(int) " + N + " " + S,
        "int deposit(int, int) " + N + " " + A + " " + S,
        "int draw(int, int) " + N + " " + A + " " + S,
        "int address(int, int) " + N,
        "int close(int) " + N + " " + S,
        "int months(int) " + A + " " + S,
        "long claim(int) " + N + " " + S,
        "int pass(int) " + N + " " + S,
        "int undo()",
        "int told(int) " + A,
        "int land(int, int) " + N + " " + A,
        "long purse(int, int) " + N + " " + A,
        "int letter(int, int) " + N,
        "int pays(int) " + A,
        "int account(int, int) " + N + " " + A,
        "int sleep(int) " + N,
        "int soon(int) " + N,
        "long worth(int, int) " + N + " " + A,
        "int row(int, int) " + N + " " + A,
        "long ahead(int, int) " + N + " " + A,
        "int letters(int) " + A,
        "long rescue(int, int, int) " + A,
        "long books(int) " + A,
        "long print()",
        "int status(int)",
    };

    public static void main(String[] args) {
        methods();
        fields();
        classes();
        Bank.end("FaceTest");
    }

    private static void methods() {
        TreeSet<String> face = new TreeSet<>();
        List<String> names = new ArrayList<>();
        for (Method method : IdleMoney.class.getDeclaredMethods()) {
            if (!Modifier.isPrivate(method.getModifiers()) && !method.isSynthetic()) {
                Bank.holds(method.getName() + " is public", Modifier.isPublic(method.getModifiers()));
                Bank.holds(method.getName() + " is no static one", !Modifier.isStatic(method.getModifiers()));
                face.add(told(method));
                names.add(method.getName());
            }
        }
        TreeSet<String> want = new TreeSet<>(Arrays.asList(FACE));
        Bank.holds("the face: " + face, face.equals(want));
        for (Class<?> type : IdleMoney.class.getDeclaredClasses()) {
            for (Method method : type.getDeclaredMethods()) {
                Bank.holds(type + " has no " + method.getName(), !names.contains(method.getName()));
            }
        }
        for (Method method : IdleMoney.class.getDeclaredMethods()) {
            if (Modifier.isPrivate(method.getModifiers())) {
                Bank.holds("no private " + method.getName(), !names.contains(method.getName()));
            }
        }
    }

    private static String told(Method method) {
        StringBuilder all = new StringBuilder(method.getReturnType() + " " + method.getName() + "(");
        for (int i = 0; i < method.getParameterCount(); i++) {
            all.append(i == 0 ? "" : ", ").append(method.getParameterTypes()[i]);
        }
        all.append(")");
        for (Class<?> thrown : method.getExceptionTypes()) {
            all.append(' ').append(thrown.getName());
        }
        return all.toString();
    }

    private static void fields() {
        int shown = 0;
        for (Field field : IdleMoney.class.getDeclaredFields()) {
            if (!Modifier.isPrivate(field.getModifiers()) && !field.isSynthetic()) {
                shown++;
                Bank.holds(field.getName(), field.getName().equals("NONE") && field.getType() == int.class);
                Bank.same("modifiers", field.getModifiers(), Modifier.PUBLIC | Modifier.STATIC | Modifier.FINAL);
            }
            if (Modifier.isStatic(field.getModifiers())) {
                Bank.holds(field.getName() + " is final", Modifier.isFinal(field.getModifiers()));
            }
        }
        Bank.same("fields that are shown", shown, 1);
    }

    private static void classes() {
        Bank.same("public final", IdleMoney.class.getModifiers(), Modifier.PUBLIC | Modifier.FINAL);
        Constructor<?>[] made = IdleMoney.class.getDeclaredConstructors();
        Bank.same("one constructor", made.length, 1);
        Bank.same("a public one", made[0].getModifiers(), Modifier.PUBLIC);
        Bank.same("without parameters", made[0].getParameterCount(), 0);
        Bank.holds("twelve classes at most", IdleMoney.class.getDeclaredClasses().length < 12);
        for (Class<?> type : IdleMoney.class.getDeclaredClasses()) {
            Bank.holds(type + " is static", Modifier.isStatic(type.getModifiers()));
            Bank.holds(type + " is not shown", !Modifier.isPublic(type.getModifiers()));
            int fields = 0;
            for (Field field : type.getDeclaredFields()) {
                fields += Modifier.isStatic(field.getModifiers()) ? 0 : 1;
                Bank.holds(type + "." + field.getName() + ": no static state",
                        !Modifier.isStatic(field.getModifiers()) || Modifier.isFinal(field.getModifiers()));
            }
            Bank.holds(type + " has twenty fields at most", fields <= 20);
        }
    }
}
