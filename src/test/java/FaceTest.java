import java.lang.reflect.Constructor;
import java.lang.reflect.Field;
import java.lang.reflect.Method;
import java.lang.reflect.Modifier;
import java.util.List;
import java.util.TreeSet;

/** "The public face", letter by letter, and what can be seen of LANGUAGE.md's rules 1, 2, 5 and 11 from outside. */
public final class FaceTest extends Checks {
    private static final List<String> METHODS = List.of("int load()", "int set(int, int)", "int hear(int)",
        "int tick(int)", "int release()", "int place(int)", "int undo()", "int write(int)", "int wipe()",
        "int fault(int)", "int told(int)", "int setting(int)", "int word(int, int)", "int row(int, int)",
        "int heard(int)", "int trail(int, int)", "int score(int)", "int best(int, int)", "int unique(int)",
        "float mean()", "int reached(int)", "int rehearse(int, int)", "int keep(int)", "int back(int)");

    private static String signature(Method method) {
        StringBuilder made = new StringBuilder();
        for (Class<?> type : method.getParameterTypes()) {
            made.append(made.length() == 0 ? "" : ", ").append(type.getName());
        }
        return method.getReturnType().getName() + " " + method.getName() + "(" + made + ")";
    }

    // "public final class Teleprompter"
    private void theClass() {
        Class<?> face = Teleprompter.class;
        due("public and final", face.getModifiers(), Modifier.PUBLIC | Modifier.FINAL);
        due("no package", face.getPackageName().isEmpty());
        due("no class above it", face.getSuperclass() == Object.class);
        due("no interfaces", face.getInterfaces().length, 0);
        Constructor<?>[] constructors = face.getDeclaredConstructors();
        due("one constructor", constructors.length, 1);
        due("it is public", constructors[0].getModifiers(), Modifier.PUBLIC);
        due("it has no arguments", constructors[0].getParameterCount(), 0);
    }

    // "BAD = -1, STATE = -2, FULL = -3, NONE = -9"
    private void theConstants() throws IllegalAccessException {
        TreeSet<String> constants = new TreeSet<>();
        for (Field field : Teleprompter.class.getDeclaredFields()) {
            if (!Modifier.isPrivate(field.getModifiers())) {
                due(field + " is a constant", field.getModifiers(), Modifier.PUBLIC | Modifier.STATIC | Modifier.FINAL);
                due(field + " is an int", field.getType() == int.class);
                constants.add(field.getName() + " " + field.getInt(null));
            }
        }
        due("constants are " + constants, constants.equals(new TreeSet<>(List.of("BAD -1", "STATE -2", "FULL -3",
            "NONE -9"))));
    }

    // The methods with what they take and return, and no other one.
    private void theMethods() {
        TreeSet<String> signatures = new TreeSet<>();
        TreeSet<String> names = new TreeSet<>();
        for (Method method : Teleprompter.class.getDeclaredMethods()) {
            if (Modifier.isPublic(method.getModifiers())) {
                signatures.add(signature(method));
                names.add(method.getName());
                due(method + " is no more than public", method.getModifiers(), Modifier.PUBLIC);
                due(method + " throws nothing", method.getExceptionTypes().length, 0);
            }
        }
        due("methods are " + signatures, signatures.equals(new TreeSet<>(METHODS)));
        for (Method method : Teleprompter.class.getDeclaredMethods()) {
            if (!Modifier.isPublic(method.getModifiers())) {
                due(method + " is private", Modifier.isPrivate(method.getModifiers()));
                due(method + " has a name of its own", !names.contains(method.getName()));
            }
        }
    }

    // LANGUAGE.md, rules 1, 2, 5 and 11: of the class and those inside it
    private void theInside() {
        Class<?>[] inside = Teleprompter.class.getDeclaredClasses();
        due("classes", inside.length < 12);
        rulesOf(Teleprompter.class);
        for (Class<?> one : inside) {
            due(one + " is not open", (one.getModifiers() & (Modifier.PUBLIC | Modifier.PROTECTED)) == 0);
            due(one + " is static", Modifier.isStatic(one.getModifiers()));
            rulesOf(one);
        }
    }

    private void rulesOf(Class<?> one) {
        int own = 0;
        for (Field field : one.getDeclaredFields()) {
            boolean shared = Modifier.isStatic(field.getModifiers());
            due(field + " is final, if it is static", !shared || Modifier.isFinal(field.getModifiers()));
            own += shared ? 0 : 1;
        }
        due("fields of " + one, own <= 20);
        for (Method method : one.getDeclaredMethods()) {
            due("parameters of " + method, method.getParameterCount() <= 7);
        }
    }

    public static void main(String[] args) throws IllegalAccessException {
        FaceTest test = new FaceTest();
        test.theClass();
        test.theConstants();
        test.theMethods();
        test.theInside();
        test.end();
    }
}
