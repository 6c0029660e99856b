import java.lang.reflect.InvocationTargetException;
import java.lang.reflect.Method;
import java.lang.reflect.Modifier;
import java.util.HashMap;
import java.util.Map;

/** Calls an object's methods by their names; an answer is a text, an exception "throws.ItsName". */
final class Caller {
    private final Object target;
    private final Map<String, Method> methods = new HashMap<>();

    Caller(Object target) {
        this.target = target;
        for (Method method : target.getClass().getDeclaredMethods()) {
            if (Modifier.isPublic(method.getModifiers())) {
                method.setAccessible(true);
                methods.put(method.getName(), method);
            }
        }
    }

    String call(String name, Object... args) {
        try {
            return String.valueOf(methods.get(name).invoke(target, args));
        } catch (InvocationTargetException e) {
            return "throws." + e.getCause().getClass().getSimpleName();
        } catch (IllegalAccessException e) {
            throw new AssertionError(e);
        }
    }

    private int number(String name, Object... args) {
        return Integer.parseInt(call(name, args));
    }

    /** All that can be asked of the object, as one text. */
    String view() {
        StringBuilder text = new StringBuilder();
        tell(text, "house", 19);
        for (int item = 0; item < number("house", 0); item++) {
            tell(text, "ofItem", 14, item);
            add(text, "line", item, true);
            add(text, "line", item, false);
            add(text, "blind", item);
        }
        for (int end = 0; end <= number("house", 9); end++) {
            tell(text, "ofEnd", 3, end);
            add(text, "code", end);
        }
        for (int pile = 0; pile < number("house", 11); pile++) {
            tell(text, "ofPile", 5, pile);
            for (int nth = 0; nth <= number("ofPile", pile, 0); nth++) {
                add(text, "inPile", pile, nth);
            }
        }
        for (int batch = 0; batch < 8; batch++) {
            tell(text, "ofBatch", 5, batch);
            for (int way = 0; way < 4; way++) {
                add(text, "hunt", batch, way, 0);
                add(text, "hunt", batch, way, 1);
            }
        }
        for (int stub = 0; stub < number("house", 16); stub++) {
            tell(text, "ofStub", 3, stub);
        }
        for (int pockets = 2; pockets <= 6; pockets++) {
            add(text, "would", pockets, false);
            add(text, "would", pockets, true);
        }
        add(text, "isSound");
        add(text, "digest");
        return text.toString();
    }

    /** Asks each of so many facts; of what they are asked stands ahead. */
    private void tell(StringBuilder text, String name, int facts, Object... of) {
        for (int what = 0; what < facts; what++) {
            if (of.length == 0) {
                add(text, name, what);
            } else {
                add(text, name, of[0], what);
            }
        }
    }

    private void add(StringBuilder text, String name, Object... args) {
        text.append(name).append(java.util.Arrays.toString(args)).append('=').append(call(name, args)).append('\n');
    }
}
