import java.io.IOException;
import java.lang.reflect.Method;
import java.lang.reflect.Modifier;
import java.net.URL;
import java.net.URLClassLoader;
import java.nio.file.Files;
import java.nio.file.Path;
import java.util.ArrayList;
import java.util.List;
import java.util.TreeSet;
import java.util.function.Supplier;
import java.util.regex.Matcher;
import java.util.regex.Pattern;
import java.util.stream.Stream;
import javax.tools.JavaCompiler;
import javax.tools.ToolProvider;

/** That README.md holds: its Java compiles and answers as it says there, and its tests are those that are run. */
public final class ReadmeTest {
    private static final Pattern BLOCK = Pattern.compile("(?ms)^```(\\w+)\n(.*?)^```$");
    private static final Pattern ANSWER = Pattern.compile("^([xy]\\.(\\w+)\\(.*\\)); *// (-?\\d+)\\b.*$");
    private static final Pattern NAMED_TEST = Pattern.compile("`(\\w+Test)`");
    private static final Checks c = new Checks();

    private final String page;
    private final StringBuilder code = new StringBuilder();
    private final List<String> calls = new ArrayList<>();
    private final List<Integer> told = new ArrayList<>();
    private final TreeSet<String> shown = new TreeSet<>();

    private ReadmeTest(String page) {
        this.page = page;
    }

    public static void main(String[] args) throws Exception {
        ReadmeTest readme = new ReadmeTest(Files.readString(Path.of("README.md")));
        readme.uses();
        readme.allCallsAreShown();
        readme.runsTheTests();
        readme.namesTheTests();
        c.end();
    }

    private List<String> blocks(String language) {
        List<String> found = new ArrayList<>();
        Matcher block = BLOCK.matcher(page);
        while (block.find()) {
            if (block.group(1).equals(language)) {
                found.add(block.group(2));
            }
        }
        return found;
    }

    private void uses() throws Exception {
        for (String block : blocks("java")) {
            block.lines().forEach(this::addLine);
        }
        int[] got = answersOf(code.toString());
        for (int i = 0; i < got.length; i++) {
            c.due("README.md: " + calls.get(i), got[i], told.get(i));
        }
    }

    /** A call with its answer behind it becomes one whose answer is kept; all else stays as it is. */
    private void addLine(String line) {
        Matcher answer = ANSWER.matcher(line);
        if (answer.matches()) {
            code.append("got[").append(calls.size()).append("] = ").append(answer.group(1)).append(";\n");
            calls.add(answer.group(1));
            shown.add(answer.group(2));
            told.add(Integer.parseInt(answer.group(3)));
            return;
        }
        code.append(line).append('\n');
        Matcher telling = Pattern.compile(" [xy]\\.(\\w+)\\(").matcher(line);
        while (telling.find()) {
            shown.add(telling.group(1));
        }
        c.due("README.md: an answer that is not told: " + line, line.matches("[xy]\\..*") ? 1 : 0, 0);
    }

    private int[] answersOf(String uses) throws Exception {
        Path folder = Files.createTempDirectory("readme");
        try {
            Path source = Files.writeString(folder.resolve("ReadmeUse.java"),
                    "public final class ReadmeUse implements java.util.function.Supplier<int[]> {\n"
                    + "public int[] get() {\nint[] got = new int[" + calls.size() + "];\n" + uses + "return got;\n}\n}\n");
            JavaCompiler compiler = ToolProvider.getSystemJavaCompiler();
            int fault = compiler.run(null, null, null, "-cp", System.getProperty("java.class.path"),
                    "-d", folder.toString(), source.toString());
            c.due("README.md: its Java compiles", fault, 0);
            return fault == 0 ? run(folder) : new int[0];
        } finally {
            remove(folder);
        }
    }

    private static int[] run(Path folder) throws Exception {
        URL[] here = {folder.toUri().toURL()};
        try (URLClassLoader loader = new URLClassLoader(here, ReadmeTest.class.getClassLoader())) {
            Object use = loader.loadClass("ReadmeUse").getDeclaredConstructor().newInstance();
            return (int[]) ((Supplier<?>) use).get();
        }
    }

    private static void remove(Path folder) throws IOException {
        try (Stream<Path> files = Files.list(folder)) {
            for (Path file : files.toList()) {
                Files.delete(file);
            }
        }
        Files.delete(folder);
    }

    private void allCallsAreShown() {
        for (Method call : NeverBothDoors.class.getDeclaredMethods()) {
            if (Modifier.isPublic(call.getModifiers())) {
                c.due("README.md shows " + call.getName(), shown.contains(call.getName()) ? 1 : 0, 1);
            }
        }
    }

    private void runsTheTests() {
        List<String> commands = blocks("sh");
        c.due("README.md: ways to run the tests", commands.size(), 1);
        for (String command : commands) {
            c.due("README.md: " + command.trim(), command.equals(".ci/run\n") ? 1 : 0, 1);
            c.due(command.trim() + " can be run", Files.isExecutable(Path.of(command.trim())) ? 1 : 0, 1);
        }
    }

    private void namesTheTests() throws IOException {
        TreeSet<String> named = new TreeSet<>();
        Matcher test = NAMED_TEST.matcher(page);
        while (test.find()) {
            named.add(test.group(1));
        }
        TreeSet<String> there = new TreeSet<>();
        try (Stream<Path> files = Files.list(Path.of("src/test/java"))) {
            files.map(file -> file.getFileName().toString().replace(".java", ""))
                    .filter(name -> name.endsWith("Test")).forEach(there::add);
        }
        c.due("README.md names the tests " + there + ", it has " + named, named.equals(there) ? 1 : 0, 1);
    }
}
