import java.lang.reflect.Constructor;
import java.lang.reflect.Field;
import java.lang.reflect.Method;
import java.lang.reflect.Modifier;
import java.util.Arrays;
import java.util.Set;
import java.util.TreeSet;

/** The class has the face of the document, and nothing else that is open to others. */
final class FaceTests {
    private static final String BAD = "IllegalArgumentException";
    private static final String STATE = "IllegalStateException";
    private static final String INDEX = "IndexOutOfBoundsException";
    private static final String[] FACE = {
        "int item(int, int, int, int, int) " + BAD + " " + STATE, "int machine(int, int) " + BAD,
        "int keyer(int, int) " + INDEX + " " + BAD, "int read(int) " + INDEX + " " + STATE, "int readAll()",
        "boolean key(int) " + INDEX + " " + STATE, "int end(int) " + BAD + " " + STATE, "int design(int, int) " + BAD,
        "int run(int) " + INDEX + " " + STATE, "int runAll() " + STATE, "int control(int, int) " + INDEX + " " + BAD,
        "int stub(int, int) " + BAD + " " + STATE, "int present(int) " + INDEX + " " + STATE, "int knock()",
        "int ofItem(int, int) " + INDEX + " " + BAD, "String line(int, boolean) " + INDEX,
        "int ofEnd(int, int) " + INDEX + " " + BAD, "String code(int) " + INDEX,
        "int ofPile(int, int) " + INDEX + " " + BAD, "int inPile(int, int) " + INDEX + " " + BAD,
        "int ofBatch(int, int) " + INDEX + " " + BAD, "int hunt(int, int, int) " + INDEX + " " + BAD,
        "int ofStub(int, int) " + INDEX + " " + BAD, "int house(int) " + BAD, "int check(int, int, int) " + BAD,
        "int blind(int) " + INDEX, "int would(int, boolean) " + BAD, "int fewest(int) " + BAD, "boolean isSound()",
        "long digest()"};

    private final Tests tests;

    FaceTests(Tests tests) {
        this.tests = tests;
    }

    void all() {
        Set<String> got = new TreeSet<>();
        Set<String> closed = new TreeSet<>();
        for (Method method : Sortpocket.class.getDeclaredMethods()) {
            if (Modifier.isPrivate(method.getModifiers())) {
                closed.add(method.getName());
            } else {
                got.add(tell(method));
            }
        }
        tests.same("methods", got.toString(), new TreeSet<>(Arrays.asList(FACE)).toString());
        for (String method : FACE) {
            String name = method.substring(method.indexOf(' ') + 1, method.indexOf('('));
            tests.same("a private method with the name " + name, closed.contains(name), false);
        }
        for (Field field : Sortpocket.class.getDeclaredFields()) {
            tests.same("private: " + field.getName(), Modifier.isPrivate(field.getModifiers()), true);
        }
        Constructor<?>[] constructors = Sortpocket.class.getDeclaredConstructors();
        tests.same("constructors", constructors.length, 1);
        tests.same("its parameters", constructors[0].getParameterCount(), 0);
        tests.same("it is public", Modifier.isPublic(constructors[0].getModifiers()), true);
        int modifiers = Sortpocket.class.getModifiers();
        tests.same("public and final", Modifier.isPublic(modifiers) && Modifier.isFinal(modifiers), true);
    }

    private static String tell(Method method) {
        String modifiers = Modifier.toString(method.getModifiers());
        StringBuilder text = new StringBuilder(modifiers.equals("public") ? "" : modifiers + " ");
        text.append(method.getReturnType().getSimpleName()).append(' ').append(method.getName()).append('(');
        String comma = "";
        for (Class<?> type : method.getParameterTypes()) {
            text.append(comma).append(type.getSimpleName());
            comma = ", ";
        }
        text.append(')');
        for (Class<?> thrown : method.getExceptionTypes()) {
            text.append(' ').append(thrown.getSimpleName());
        }
        return text.toString();
    }
}
