import java.lang.reflect.InvocationTargetException;
import java.lang.reflect.Method;
import java.lang.reflect.Modifier;
import java.util.Arrays;

/**
 * Every call of the face, with all the numbers at which something changes in every one of its
 * places at once, answered by the program and by the model: with a ridge, without one, and with
 * the greatest one. After each answer fault() and how many there are of all must be alike, too.
 */
public final class CornersTest {
    private static final Due due = new Due("CornersTest");
    private static final int MIN = Integer.MIN_VALUE, MAX = Integer.MAX_VALUE;
    /** Of calls with few places all numbers of the document and those just beyond them. */
    private static final int[] MANY = {MIN, MIN + 1, -2, -1, 0, 1, 2, 3, 4, 5, 6, 7, 8, 9, 10, 11, 59, 60, 61, MAX - 1, MAX};
    /** Of calls with four or five places those at which the standing sheets and the ridge change. */
    private static final int[] FEW = {MIN, -1, 0, 1, 3, 4, 5, MAX};
    private static final String[] TEXTS = {"", "i,n2,l1,c0;>2<1>4+00+00+11+32",
        "i,c0,n0,l0,n1,n0,n2;>0<3>1<2>2<0>5<1+05+14+23+32+01+10+22+35"};

    private final String text;
    private SnowInns x;
    private Model m;
    private int calls;

    private CornersTest(String text) {
        this.text = text;
        begin();
    }

    public static void main(String[] args) {
        Method[] face = Arrays.stream(SnowInns.class.getDeclaredMethods())
                .filter(method -> Modifier.isPublic(method.getModifiers()))
                .sorted((a, b) -> a.getName().compareTo(b.getName())).toArray(Method[]::new);
        due.is("calls of the face", face.length, 35);
        for (String text : TEXTS) {
            CornersTest corners = new CornersTest(text);
            for (Method call : face) {
                corners.go(call, new Object[call.getParameterCount()], 0);
            }
        }
        due.end();
    }

    private void begin() {
        x = new SnowInns();
        m = new Model();
        calls = 0;
        for (int k = 0; k < 3; k++) {
            x.sheet(k, k, 3 + k);
            m.sheet(k, k, 3 + k);
            for (int i = 0; i < 3 + k; i++) {
                x.put(k, i, i);
                m.put(k, i, i);
            }
        }
        if (!text.isEmpty()) {
            Due.tell(x, text);
            m.sheet(3, 0, text.length());
            for (int i = 0; i < text.length(); i++) {
                m.put(3, i, text.charAt(i));
            }
            m.ridge(3, 0, 0, text.length());
            x.lose(3);
            m.lose(3);
            x.reading(0, 1, 0);
            m.reading(0, 1, 0);
        }
        x.put(3, 0, 0);
        m.put(3, 0, 0);
    }

    private void go(Method call, Object[] args, int place) {
        if (place == args.length) {
            compare(call, args);
            return;
        }
        if (call.getParameterTypes()[place] == boolean.class) {
            for (boolean is : new boolean[] {false, true}) {
                args[place] = is;
                go(call, args, place + 1);
            }
            return;
        }
        for (int v : args.length < 4 ? MANY : FEW) {
            args[place] = v;
            go(call, args, place + 1);
        }
    }

    private void compare(Method call, Object[] args) {
        long want = answer(m, call.getName(), call.getParameterTypes(), args);
        long got = answer(x, call.getName(), call.getParameterTypes(), args);
        String told = text + ": " + call.getName() + Arrays.toString(args);
        due.is(told, got, want);
        due.is(told + ": fault()", x.fault(), m.fault());
        for (int what = 0; what < 5; what++) {
            due.is(told + ": many(" + what + ")", x.many(what), m.many(what));
        }
        calls += 7;
        // A call that was taken may have changed something; what is refused must not, so it goes on as it is.
        if (want >= 0 || calls > 300) {
            begin();
        }
    }

    private static long answer(Object of, String name, Class<?>[] types, Object[] args) {
        try {
            Method method = of.getClass().getDeclaredMethod(name, types);
            return ((Number) method.invoke(of, args)).longValue();
        } catch (InvocationTargetException thrown) {
            throw new IllegalStateException(name + Arrays.toString(args) + " threw " + thrown.getCause());
        } catch (NoSuchMethodException | IllegalAccessException wrong) {
            throw new IllegalStateException(wrong);
        }
    }
}
