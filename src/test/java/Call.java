import java.lang.reflect.InvocationTargetException;
import java.lang.reflect.Method;
import java.lang.reflect.Modifier;
import java.util.HashMap;
import java.util.Map;
import java.util.Set;

/**
 * A call told as text, such as "sweep(1, true, MAX)": a row of a test tells it once and the same
 * words stand in what is printed. MIN and MAX are the least and the greatest int; 'x' is a code.
 */
final class Call {
    private static final Map<String, Method> FACE = methodsOf(SnowInns.class);
    private static final Set<String> NAMING_FAULTS = Set.of("ridge", "list", "sheet", "put", "cell", "copy", "as");

    private final String text;
    private final String name;
    private final Object[] args;

    Call(String text) {
        this.text = text;
        int open = text.indexOf('(');
        name = text.substring(0, open);
        String inside = text.substring(open + 1, text.length() - 1);
        String[] words = inside.isEmpty() ? new String[0] : inside.split(", ");
        args = new Object[words.length];
        for (int i = 0; i < words.length; i++) {
            args[i] = value(words[i]);
        }
    }

    private static Map<String, Method> methodsOf(Class<?> of) {
        Map<String, Method> methods = new HashMap<>();
        for (Method m : of.getDeclaredMethods()) {
            if (Modifier.isPublic(m.getModifiers())) {
                methods.put(m.getName(), m);
            }
        }
        return methods;
    }

    private static Object value(String word) {
        switch (word) {
            case "true":
                return true;
            case "false":
                return false;
            case "MIN":
                return Integer.MIN_VALUE;
            case "MAX":
                return Integer.MAX_VALUE;
            default:
                return word.startsWith("'") ? Integer.valueOf(word.charAt(1)) : Integer.valueOf(word);
        }
    }

    boolean namesFaults() {
        return NAMING_FAULTS.contains(name);
    }

    boolean answersLong() {
        return FACE.get(name).getReturnType() == long.class;
    }

    /** What the object answers; a call that throws ends the test, as no call ever may. */
    long on(SnowInns x) {
        try {
            return ((Number) FACE.get(name).invoke(x, args)).longValue();
        } catch (InvocationTargetException thrown) {
            throw new IllegalStateException(text + " threw " + thrown.getCause());
        } catch (IllegalAccessException wrong) {
            throw new IllegalStateException(text + " is no call: " + wrong);
        }
    }

    @Override
    public String toString() {
        return text;
    }
}
