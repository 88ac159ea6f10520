import java.io.IOException;
import java.lang.reflect.Field;
import java.lang.reflect.Method;
import java.lang.reflect.Modifier;
import java.net.URL;
import java.net.URLClassLoader;
import java.nio.file.Files;
import java.nio.file.Path;
import java.util.ArrayList;
import java.util.Comparator;
import java.util.List;
import java.util.Set;
import java.util.TreeSet;
import java.util.regex.Matcher;
import java.util.regex.Pattern;
import java.util.stream.Stream;
import javax.tools.JavaCompiler;
import javax.tools.ToolProvider;

/**
 * README.md as a program: its java blocks are joined to one method, each call in them becomes a
 * row with the answer that stands behind it, and what comes of it is compiled and run. A call
 * without an answer behind it, or one that is shown nowhere, fails as well.
 */
public final class ReadmeTest {
    private static final Due due = new Due("ReadmeTest");
    private static final Pattern BLOCK = Pattern.compile("(?ms)^```java\\n(.*?)^```$");
    private static final Pattern CALL = Pattern.compile("\\b(?:x|new SnowInns\\(\\))\\.(\\w+)\\(");
    private static final Pattern ROW =
            Pattern.compile("(\\s*)((?:x|new SnowInns\\(\\))\\.\\w+\\(.*\\));\\s*// (-?\\d+|\\w+)(?::.*)?");
    private static final int MOST_CALLS = 512;

    public static void main(String[] args) throws IOException, ReflectiveOperationException {
        String readme = Files.readString(Path.of("README.md"));
        String code = javaOf(readme);
        everyCallHasItsAnswer(code);
        everyCallIsShown(code);
        everyConstantIsNamed(readme);
        everyTestIsNamed(readme);
        answersAreAsSaid(code);
        due.end();
    }

    private static void holds(String what, boolean so) {
        due.is(what, so ? 1 : 0, 1);
    }

    private static String javaOf(String readme) {
        StringBuilder code = new StringBuilder();
        Matcher block = BLOCK.matcher(readme);
        while (block.find()) {
            code.append(block.group(1));
        }
        return code.toString();
    }

    private static void everyCallHasItsAnswer(String code) {
        code.lines().filter(line -> CALL.matcher(line).find())
                .forEach(line -> holds("an answer stands behind " + line.trim(), ROW.matcher(line).matches()));
    }

    private static void everyCallIsShown(String code) {
        Set<String> shown = new TreeSet<>();
        Matcher call = CALL.matcher(code);
        while (call.find()) {
            shown.add(call.group(1));
        }
        for (Method m : SnowInns.class.getDeclaredMethods()) {
            if (Modifier.isPublic(m.getModifiers())) {
                holds(m.getName() + " is shown", shown.contains(m.getName()));
            }
        }
    }

    private static void everyConstantIsNamed(String readme) {
        for (Field f : SnowInns.class.getFields()) {
            holds(f.getName() + " is named", Pattern.compile("\\b" + f.getName() + "\\b").matcher(readme).find());
        }
    }

    private static void everyTestIsNamed(String readme) throws IOException {
        Set<String> there = new TreeSet<>();
        try (Stream<Path> files = Files.list(Path.of("src/test/java"))) {
            files.map(file -> file.getFileName().toString()).filter(name -> name.endsWith("Test.java"))
                    .forEach(name -> there.add(name.substring(0, name.length() - ".java".length())));
        }
        Set<String> named = new TreeSet<>();
        Matcher row = Pattern.compile("(?m)^\\| (\\w+Test) \\|").matcher(readme);
        while (row.find()) {
            named.add(row.group(1));
        }
        holds("the tests named are " + named + ", there are " + there, named.equals(there));
    }

    private static void answersAreAsSaid(String code) throws IOException, ReflectiveOperationException {
        Path folder = Files.createTempDirectory("readme");
        try {
            List<Object[]> rows = rowsOf(folder, code);
            for (Object[] row : rows) {
                due.is((String) row[0], (Long) row[1], (Long) row[2]);
            }
            holds("there are rows", !rows.isEmpty());
            holds(rows.size() + " calls, no more than an object is used for", rows.size() <= MOST_CALLS);
        } finally {
            remove(folder);
        }
    }

    /** What each call of the code answered, and what is said behind it. */
    private static List<Object[]> rowsOf(Path folder, String code) throws IOException, ReflectiveOperationException {
        Path source = folder.resolve("Readme.java");
        Files.writeString(source, programOf(code));
        JavaCompiler javac = ToolProvider.getSystemJavaCompiler();
        int refused = javac.run(null, null, null, "-cp", System.getProperty("java.class.path"),
                "-d", folder.toString(), source.toString());
        due.is("javac of README.md's code", refused, 0);
        List<Object[]> rows = new ArrayList<>();
        if (refused == 0) {
            try (URLClassLoader loader = new URLClassLoader(new URL[] {folder.toUri().toURL()})) {
                loader.loadClass("Readme").getMethod("rows", List.class).invoke(null, rows);
            }
        }
        return rows;
    }

    private static String programOf(String code) {
        StringBuilder program = new StringBuilder("public final class Readme {\n"
                + "static final int UNKNOWN = SnowInns.UNKNOWN, OUTSIDE = SnowInns.OUTSIDE, STATE = SnowInns.STATE,\n"
                + "FULL = SnowInns.FULL, NONE = SnowInns.NONE;\n"
                + "static final long LOST = SnowInns.LOST;\n"
                + "public static void rows(java.util.List<Object[]> rows) {\n");
        code.lines().forEach(line -> program.append(statementOf(line)).append('\n'));
        return program.append("}\n}\n").toString();
    }

    private static String statementOf(String line) {
        Matcher row = ROW.matcher(line);
        if (!row.matches()) {
            return line;
        }
        String call = row.group(2);
        return row.group(1) + "rows.add(new Object[] {\"" + call.replace("\"", "\\\"") + "\", (long) " + call
                + ", (long) " + row.group(3) + "});";
    }

    private static void remove(Path folder) throws IOException {
        List<Path> all;
        try (Stream<Path> files = Files.walk(folder)) {
            all = files.sorted(Comparator.reverseOrder()).toList();
        }
        for (Path one : all) {
            Files.delete(one);
        }
    }
}
