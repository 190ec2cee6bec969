import java.io.IOException;
import java.lang.reflect.Method;
import java.lang.reflect.Modifier;
import java.net.URL;
import java.net.URLClassLoader;
import java.nio.file.Files;
import java.nio.file.Path;
import java.util.ArrayList;
import java.util.List;
import java.util.Set;
import java.util.TreeSet;
import java.util.regex.Matcher;
import java.util.regex.Pattern;
import java.util.stream.Stream;
import javax.tools.ToolProvider;

/**
 * What README.md says: the Java that it shows is compiled and run, each call against the answer
 * behind it; every method of the face is shown; its table names the tests that there are.
 */
public final class ReadmeTest {
    private static final Pattern BLOCK = Pattern.compile("(?ms)^```java\\n(.*?)^```$");
    private static final Pattern CALL = Pattern.compile("(?:int (\\w+) = )?(bench\\.[^;]*);\\s*"
        + "(?://\\s*(?:(-?\\d+|true|false)(?=:|$))?.*)?");
    private static final Pattern ROW = Pattern.compile("(?m)^\\| `(\\w+Test)` \\|");
    private static final Pattern PLACE = Pattern.compile("`((?:\\.\\./)?[\\w.]+(?:/[\\w.]+)+)`");

    public static void main(String[] args) throws Exception {
        String readme = Files.readString(Path.of("README.md"));
        List<String> blocks = new ArrayList<>();
        Matcher block = BLOCK.matcher(readme);
        while (block.find()) {
            blocks.add(block.group(1));
        }
        Check.due("blocks of Java", blocks.size() > 0, true);
        showsAll(String.join("", blocks));
        run(sourceOf(blocks));
        namesTests(readme);
        namesPlaces(readme);
        Check.end();
    }

    private static void showsAll(String shown) {
        for (Method method : DayBench.class.getDeclaredMethods()) {
            if (Modifier.isPublic(method.getModifiers())) {
                Check.due("README.md shows " + method.getName(), shown.contains("bench." + method.getName() + "("), true);
            }
        }
    }

    /** Each block is a method of its own; a call with an answer behind it becomes a row of text, got, due. */
    private static String sourceOf(List<String> blocks) {
        StringBuilder source = new StringBuilder("public final class ReadmeUse {\n"
            + "static java.util.List<Object[]> rows = new java.util.ArrayList<>();\n"
            + "static long n(int v) { return v; }\n"
            + "static long n(boolean v) { return v ? 1 : 0; }\n");
        for (int k = 0; k < blocks.size(); k++) {
            source.append("static void use").append(k).append("() {\n");
            for (String line : blocks.get(k).split("\n")) {
                source.append(codeOf(line)).append('\n');
            }
            source.append("}\n");
        }
        source.append("public static java.util.List<Object[]> all() {\n");
        for (int k = 0; k < blocks.size(); k++) {
            source.append("use").append(k).append("();\n");
        }
        return source.append("return rows;\n}\n}\n").toString();
    }

    private static String codeOf(String line) {
        Matcher call = CALL.matcher(line);
        if (!call.matches()) {
            return line;
        }
        Check.due("an answer stands behind " + line, call.group(3) != null, true);
        if (call.group(3) == null) {
            return line;
        }
        String name = call.group(1);
        String ahead = name == null ? "" : "int " + name + " = " + call.group(2) + "; ";
        String got = name == null ? call.group(2) : name;
        return ahead + "rows.add(new Object[] {\"README.md: " + call.group(2) + "\", n(" + got + "), n(" + call.group(3) + ")});";
    }

    private static void run(String source) throws Exception {
        Path place = Files.createTempDirectory("readme");
        try {
            Path file = Files.writeString(place.resolve("ReadmeUse.java"), source);
            int bad = ToolProvider.getSystemJavaCompiler().run(null, null, null, "--release", "17", "-proc:none",
                "-cp", System.getProperty("java.class.path"), "-d", place.toString(), file.toString());
            Check.due("README.md compiles", bad == 0, true);
            if (bad == 0) {
                compare(place);
            }
        } finally {
            remove(place);
        }
    }

    private static void compare(Path place) throws Exception {
        int rows = 0;
        try (URLClassLoader loader = new URLClassLoader(new URL[] {place.toUri().toURL()})) {
            Object all = loader.loadClass("ReadmeUse").getMethod("all").invoke(null);
            for (Object row : (List<?>) all) {
                Object[] parts = (Object[]) row;
                Check.due((String) parts[0], (Long) parts[1], (Long) parts[2]);
                rows++;
            }
        }
        Check.due("calls of README.md were run", rows > 0, true);
    }

    private static void remove(Path place) throws IOException {
        try (Stream<Path> files = Files.list(place)) {
            for (Path file : (Iterable<Path>) files::iterator) {
                Files.delete(file);
            }
        }
        Files.delete(place);
    }

    private static void namesTests(String readme) throws IOException {
        Set<String> named = new TreeSet<>();
        Matcher row = ROW.matcher(readme);
        while (row.find()) {
            named.add(row.group(1));
        }
        Set<String> there = new TreeSet<>();
        try (Stream<Path> files = Files.list(Path.of("src/test/java"))) {
            files.map(file -> file.getFileName().toString()).filter(name -> name.endsWith("Test.java"))
                .forEach(name -> there.add(name.replace(".java", "")));
        }
        Check.due("tests in README.md's table " + named + ", there are " + there, named.equals(there), true);
    }

    private static void namesPlaces(String readme) {
        Matcher place = PLACE.matcher(readme);
        int found = 0;
        while (place.find()) {
            Check.due("there is " + place.group(1), Files.exists(Path.of(place.group(1))), true);
            found++;
        }
        Check.due("places were found", found > 0, true);
        Check.due(".ci/run can be run", Files.isExecutable(Path.of(".ci/run")), true);
    }
}
