import java.io.IOException;
import java.lang.reflect.Constructor;
import java.lang.reflect.Field;
import java.lang.reflect.Method;
import java.lang.reflect.Modifier;
import java.nio.file.Files;
import java.nio.file.Path;
import java.util.ArrayList;
import java.util.Arrays;
import java.util.List;
import java.util.Set;
import java.util.TreeSet;
import java.util.regex.Matcher;
import java.util.regex.Pattern;

/** The document's public face, and the rules of LANGUAGE.md that can be seen without reading. */
public final class FaceTest {
    private static final Due due = new Due("FaceTest");
    private static final String[] METHODS = {
        "int ridge(int, int, int, int)", "int ofInn(int, int)", "int ofGuest(int, int)", "int ofNight(int, int)",
        "int rule(int)", "int fall(int, int)", "int gust(int, boolean)", "int lodge(int, int)",
        "int sweep(int, boolean, int)", "int where(int, int)", "int deep(int, int)", "int beds(int, int)",
        "int list(int, int, int, int, int)", "int meet(int)", "int least(int, int)", "int turn(int, int)",
        "int corks(int)", "int reading(int, int, int)", "int back(int)", "int rules()", "int kinds(int)",
        "int depths(int)", "int falls(int)", "long odds(int, int, int)", "int sheet(int, int, int)",
        "int lose(int)", "int put(int, int, int)", "long cell(int, int, int)",
        "int copy(int, int, int, int, int)", "int tell(int)", "int light(int)", "int as(int, int)",
        "int trace()", "int fault()", "int many(int)"};
    private static final String[] FORBIDDEN = {
        "throw", "throws", "try", "catch", "synchronized", "assert", "import", "package", "protected", "var",
        "Exception", "Thread", "Object", "lang"};

    public static void main(String[] args) throws IOException {
        constants();
        methods();
        nothingElseIsVisible();
        classesAreSmall();
        language(Files.readString(Path.of("src/main/java/SnowInns.java")));
        due.end();
    }

    private static void holds(String what, boolean so) {
        due.is(what, so ? 1 : 0, 1);
    }

    private static void constants() {
        due.is("UNKNOWN", SnowInns.UNKNOWN, -1);
        due.is("OUTSIDE", SnowInns.OUTSIDE, -2);
        due.is("STATE", SnowInns.STATE, -3);
        due.is("FULL", SnowInns.FULL, -4);
        due.is("NONE", SnowInns.NONE, -9);
        due.is("LOST", SnowInns.LOST, Long.MIN_VALUE);
    }

    private static void methods() {
        Set<String> visible = new TreeSet<>();
        for (Method m : SnowInns.class.getDeclaredMethods()) {
            if (Modifier.isPublic(m.getModifiers())) {
                String types = Arrays.toString(m.getParameterTypes());
                visible.add(m.getReturnType() + " " + m.getName() + "(" + types.substring(1, types.length() - 1) + ")");
            }
        }
        holds("the methods are " + visible, visible.equals(new TreeSet<>(Arrays.asList(METHODS))));
    }

    private static void nothingElseIsVisible() {
        holds("the class is public and final",
                Modifier.isPublic(SnowInns.class.getModifiers()) && Modifier.isFinal(SnowInns.class.getModifiers()));
        Set<String> open = new TreeSet<>();
        Set<String> hidden = new TreeSet<>();
        for (Method m : SnowInns.class.getDeclaredMethods()) {
            holds(m + " is public or private", isOpen(m.getModifiers()) || Modifier.isPrivate(m.getModifiers()));
            (isOpen(m.getModifiers()) ? open : hidden).add(m.getName());
        }
        for (Class<?> inside : SnowInns.class.getDeclaredClasses()) {
            holds(inside + " is static", Modifier.isStatic(inside.getModifiers()));
            for (Method m : inside.getDeclaredMethods()) {
                hidden.add(m.getName());
            }
        }
        hidden.retainAll(open);
        holds("methods that bear a public one's name: " + hidden, hidden.isEmpty());
        int constants = 0;
        for (Field f : SnowInns.class.getDeclaredFields()) {
            holds(f + " is public or private", isOpen(f.getModifiers()) || Modifier.isPrivate(f.getModifiers()));
            holds(f + " is final if static", !Modifier.isStatic(f.getModifiers()) || Modifier.isFinal(f.getModifiers()));
            constants += isOpen(f.getModifiers()) ? 1 : 0;
        }
        due.is("public fields", constants, 6);
        Constructor<?>[] made = SnowInns.class.getDeclaredConstructors();
        holds("one public constructor", made.length == 1 && isOpen(made[0].getModifiers()));
    }

    private static void classesAreSmall() {
        List<Class<?>> classes = new ArrayList<>(List.of(SnowInns.class.getDeclaredClasses()));
        classes.add(SnowInns.class);
        holds("at most 12 classes: " + classes.size(), classes.size() <= 12);
        for (Class<?> one : classes) {
            long fields = Arrays.stream(one.getDeclaredFields())
                    .filter(f -> !Modifier.isStatic(f.getModifiers())).count();
            holds("at most 20 fields: " + one + ", " + fields, fields <= 20);
            for (Method m : one.getDeclaredMethods()) {
                holds("at most 7 parameters: " + m, m.getParameterCount() <= 7);
            }
        }
    }

    private static boolean isOpen(int modifiers) {
        return Modifier.isPublic(modifiers);
    }

    private static void language(String source) {
        String code = source.replaceAll("(?s)/\\*.*?\\*/", "").replaceAll("//.*", "");
        for (String word : FORBIDDEN) {
            holds("no " + word, !Pattern.compile("\\b" + word + "\\b").matcher(code).find());
        }
        holds("no lambda, no method reference", !code.contains("->") && !code.contains("::"));
        holds("no endless loop", !Pattern.compile("while\\s*\\(true\\)|for\\s*\\(;;").matcher(code).find());
        for (char c : source.toCharArray()) {
            if (c > 127) {
                holds("a sign beyond 127: " + (int) c, false);
            }
        }
        libraryIsListed(code);
        methodsAreShort(code);
    }

    /** Of the library's static functions only those that rule 4 lists, and nothing of it is made. */
    private static void libraryIsListed(String code) {
        Matcher used = Pattern.compile("\\b([A-Z]\\w*)\\.(\\w+)").matcher(code);
        while (used.find()) {
            String name = used.group();
            boolean isNumbers = Set.of("Math", "Integer", "Long").contains(used.group(1)) && !name.endsWith("Exact");
            holds("rule 4 lists " + name, isNumbers || name.equals("System.arraycopy"));
        }
        Set<String> own = new TreeSet<>(Set.of("int", "SnowInns"));
        for (Class<?> inside : SnowInns.class.getDeclaredClasses()) {
            own.add(inside.getSimpleName());
        }
        Matcher made = Pattern.compile("\\bnew (\\w+)").matcher(code);
        while (made.find()) {
            holds("new " + made.group(1) + " is of its own", own.contains(made.group(1)));
        }
    }

    private static void methodsAreShort(String code) {
        Matcher method = Pattern.compile("(?ms)^( +)[^\\n;]*\\) \\{\\n.*?^\\1\\}$").matcher(code);
        while (method.find()) {
            String text = method.group();
            holds("at most 60 lines: " + text.substring(0, text.indexOf('\n')).trim(), text.lines().count() <= 60);
        }
    }
}
