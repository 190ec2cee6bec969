import java.lang.reflect.Field;
import java.lang.reflect.Method;
import java.lang.reflect.Modifier;
import java.nio.file.Files;
import java.nio.file.Path;
import java.util.Set;
import java.util.TreeSet;
import java.util.regex.Matcher;
import java.util.regex.Pattern;

/** Those rules of LANGUAGE.md that a text or the compiled class can be searched for. */
public final class LanguageTest {
    private static final String[] FORBIDDEN = {"\\bthrow\\b", "\\btry\\b", "\\bcatch\\b", "\\bsynchronized\\b",
        "\\bassert\\b", "->", "::", "\\bimport\\b", "\\bpackage\\b", "Exact\\b", "\\bstatic\\s*\\{", "\\bprotected\\b",
        "\\bthread", "\\bRandom\\b", "\\bSystem\\.(?!arraycopy)", "\\bObject\\b", "\\bdouble\\b", "\\bfloat\\b"};
    private static final Set<String> FACE = new TreeSet<>(Set.of(
        "int day(int,int,int,int)", "int date(int,int,int)", "int years(int,int,int)", "int king(int,int,int)",
        "int event()", "int say(int,int,int,int,int,int)", "boolean copy(int,int)", "boolean take(int,boolean)",
        "int look(int,int)", "int span(int,int,boolean)", "int first(int)", "int last(int)", "int can(int,int)",
        "int agrees()", "int quarrel()", "int slips()", "int slipped(int)", "int width(int,int)", "int settles()",
        "int count(int)"));

    public static void main(String[] args) throws Exception {
        String source = Files.readString(Path.of("src/main/java/DayBench.java"));
        String code = source.replaceAll("(?s)/\\*.*?\\*/", "").replaceAll("//[^\n]*", "");
        for (String word : FORBIDDEN) {
            Matcher found = Pattern.compile(word).matcher(code);
            Check.due("found " + word, found.find(), false);
        }
        face();
        nested();
        Check.end();
    }

    private static void face() {
        Set<String> found = new TreeSet<>();
        for (Method method : DayBench.class.getDeclaredMethods()) {
            if (Modifier.isPublic(method.getModifiers())) {
                String whole = method.toString().replace("public ", "").replace("DayBench.", "");
                found.add(whole);
            } else {
                Check.due(method + " is private", Modifier.isPrivate(method.getModifiers()) || method.isSynthetic(), true);
                Check.due(method + " bears a public name", names().contains(method.getName()), false);
            }
        }
        Check.due("face: " + found, found.equals(FACE), true);
        Check.due("final", Modifier.isFinal(DayBench.class.getModifiers()), true);
        Check.due("constructors", DayBench.class.getConstructors().length, 1);
        for (Field field : DayBench.class.getDeclaredFields()) {
            boolean open = !Modifier.isPrivate(field.getModifiers());
            Check.due(field + " is open", open, field.getName().equals("NONE"));
        }
    }

    private static Set<String> names() {
        Set<String> names = new TreeSet<>();
        for (String method : FACE) {
            names.add(method.replaceAll(".* (\\w+)\\(.*", "$1"));
        }
        return names;
    }

    private static int fieldsOf(Class<?> owner) {
        int fields = 0;
        for (Field field : owner.getDeclaredFields()) {
            if (Modifier.isStatic(field.getModifiers())) {
                Check.due(field + " is final", Modifier.isFinal(field.getModifiers()), true);
            } else {
                fields++;
            }
        }
        return fields;
    }

    private static void nested() {
        Set<String> names = names();
        Check.due("the bench has at most twenty fields", fieldsOf(DayBench.class) <= 20, true);
        Check.due("at most twelve classes", DayBench.class.getDeclaredClasses().length < 12, true);
        for (Class<?> inside : DayBench.class.getDeclaredClasses()) {
            Check.due(inside + " is static", Modifier.isStatic(inside.getModifiers()), true);
            for (Method method : inside.getDeclaredMethods()) {
                Check.due(method + " bears a public name", names.contains(method.getName()), false);
            }
            Check.due(inside + " has at most twenty fields", fieldsOf(inside) <= 20, true);
        }
    }
}
