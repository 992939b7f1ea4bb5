import java.io.IOException;
import java.lang.reflect.Constructor;
import java.lang.reflect.Field;
import java.lang.reflect.Method;
import java.lang.reflect.Modifier;
import java.nio.file.Files;
import java.nio.file.Path;
import java.util.HashSet;
import java.util.Set;
import java.util.TreeSet;
import java.util.regex.Matcher;
import java.util.regex.Pattern;

/** What of the document's face and of LANGUAGE.md can be seen by the words of the source and by the compiled class. */
public final class LanguageTest {
    private static final String FACE = "letter(int) burrow() room(int,int) lock(int,int) person(int,int) open(int,int)"
            + " passes(int,int) minutes(int) leak(int,int) air(int,int) gasps(int) out() way(int,int) soonest(int)"
            + " farthest(int) more(int) errands(int,int) fitted() bare() row(int) gauges(int,int) judge() ends()"
            + " clear() seeds(int,int) image() on() count(int)";
    private static final String FORBIDDEN = "throw|throws|try|catch|synchronized|assert|var|record|sealed|yield|package"
            + "|System\\.(?!arraycopy)\\w+|Thread|Random|Integer\\.MAX_VALUE|\\w+Exact|equals|hashCode|toString|HashMap"
            + "|->|::|protected|@\\w+|Object|float|double";
    private static final Checks c = new Checks();

    public static void main(String[] args) throws IOException {
        face();
        insideClasses();
        words(Files.readString(Path.of("src/main/java/NeverBothDoors.java")));
        c.end();
    }

    private static void face() {
        Class<?> x = NeverBothDoors.class;
        c.due("public and final", x.getModifiers() & (Modifier.PUBLIC | Modifier.FINAL), Modifier.PUBLIC | Modifier.FINAL);
        c.due("no package", x.getPackageName().length(), 0);
        Set<String> open = new TreeSet<>();
        Set<String> names = new HashSet<>();
        for (Method m : x.getDeclaredMethods()) {
            if (!Modifier.isPrivate(m.getModifiers())) {
                open.add(signature(m));
                names.add(m.getName());
                c.due(m + " is public and answers an int", Modifier.isPublic(m.getModifiers()) && m.getReturnType() == int.class ? 1 : 0, 1);
            }
        }
        Set<String> want = new TreeSet<>(Set.of(FACE.split(" ")));
        c.due("the face " + open, open.equals(want) ? 1 : 0, 1);
        c.due("constructors", x.getDeclaredConstructors().length, 1);
        for (Constructor<?> made : x.getDeclaredConstructors()) {
            c.due("public, of nothing", Modifier.isPublic(made.getModifiers()) && made.getParameterCount() == 0 ? 1 : 0, 1);
        }
        for (Field f : x.getDeclaredFields()) {
            c.due(f + " is private", Modifier.isPrivate(f.getModifiers()) ? 1 : 0, 1);
        }
        for (Method m : x.getDeclaredMethods()) {
            boolean twice = Modifier.isPrivate(m.getModifiers()) && names.contains(m.getName());
            c.due(m + " bears a public name", twice ? 1 : 0, 0);
        }
    }

    private static String signature(Method m) {
        StringBuilder s = new StringBuilder(m.getName()).append('(');
        for (Class<?> type : m.getParameterTypes()) {
            s.append(s.charAt(s.length() - 1) == '(' ? "" : ",").append(type.getName());
        }
        return s.append(')').toString();
    }

    private static void insideClasses() {
        Class<?>[] inside = NeverBothDoors.class.getDeclaredClasses();
        c.due("some twelve classes at most", inside.length <= 11 ? 1 : 0, 1);
        for (Class<?> in : inside) {
            c.due(in + " is static", Modifier.isStatic(in.getModifiers()) ? 1 : 0, 1);
            c.due(in + " is not for all", in.getModifiers() & (Modifier.PUBLIC | Modifier.PROTECTED), 0);
            int fields = 0;
            for (Field f : in.getDeclaredFields()) {
                fields += Modifier.isStatic(f.getModifiers()) ? 0 : 1;
            }
            c.due(in + " has some twenty fields at most", fields <= 20 ? 1 : 0, 1);
            for (Method m : in.getDeclaredMethods()) {
                c.due(m + " has seven parameters at most", m.getParameterCount() <= 7 ? 1 : 0, 1);
            }
        }
    }

    private static void words(String source) {
        String code = source.replaceAll("(?s)/\\*.*?\\*/", "").replaceAll("//[^\n]*", "");
        Matcher forbidden = Pattern.compile("(?<!\\w)(?:" + FORBIDDEN + ")(?!\\w)").matcher(code);
        while (forbidden.find()) {
            c.due("a word that the language leaves out: " + forbidden.group(), 1, 0);
        }
        Matcher imported = Pattern.compile("import ([\\w.*]+);").matcher(code);
        while (imported.find()) {
            c.due("import of " + imported.group(1), imported.group(1).equals("java.util.Arrays") ? 1 : 0, 1);
        }
        c.due("signs beyond 127", source.chars().filter(sign -> sign > 127).count(), 0);
        Matcher method = Pattern.compile("(?ms)^( +)[\\w\\[\\] ]+\\([^()\n]*\\) \\{$(.*?)^\\1\\}$").matcher(code);
        while (method.find()) {
            long lines = method.group(2).chars().filter(sign -> sign == '\n').count();
            c.due("a method of " + lines + " lines", lines <= 60 ? 1 : 0, 1);
        }
    }
}
