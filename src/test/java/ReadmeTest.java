import java.io.IOException;
import java.io.StringWriter;
import java.lang.reflect.InvocationTargetException;
import java.lang.reflect.Method;
import java.lang.reflect.Modifier;
import java.net.URL;
import java.net.URLClassLoader;
import java.nio.file.Files;
import java.nio.file.Path;
import java.util.ArrayList;
import java.util.List;
import java.util.Set;
import java.util.TreeSet;
import java.util.function.BiConsumer;
import java.util.regex.Matcher;
import java.util.regex.Pattern;
import java.util.stream.Stream;
import javax.tools.JavaCompiler;
import javax.tools.StandardJavaFileManager;
import javax.tools.ToolProvider;

/** What README.md shows of calls and answers is what the class answers, and its tables leave nothing out. */
public final class ReadmeTest {
    private static final Pattern BLOCK = Pattern.compile("```java\n(.*?)```", Pattern.DOTALL);
    private static final Pattern CALL = Pattern.compile("(x\\.\\w+\\([^;]*\\)); +// (-?\\d+|[A-Z]+): .+");
    private static final Pattern ROW = Pattern.compile("(?m)^\\| `(\\w+)\\(([^)]*)\\)` \\| ([^|]+) \\| ([^|]*)\\|$");
    private static final Pattern PROMISE = Pattern.compile("## Promise \\d+: (\\w+)\n\n([^\n]*)");
    private static final Pattern REFUSAL = Pattern.compile("\\b(UNKNOWN|OUTSIDE|NOT|FULL)\\b");

    /** The page's blocks are one program; each call in it becomes a question whose answer is due. */
    private static List<String> program(String page) {
        List<String> lines = new ArrayList<>();
        Matcher block = BLOCK.matcher(page);
        while (block.find()) {
            for (String line : block.group(1).split("\n")) {
                Matcher call = CALL.matcher(line);
                if (call.matches()) {
                    String answer = call.group(2);
                    String due = Character.isUpperCase(answer.charAt(0)) ? "CenturyTown." + answer : answer;
                    lines.add("due.accept(\"" + call.group(1) + "\", new long[] {" + call.group(1) + ", " + due + "});");
                } else {
                    Check.due("a call shown without its answer: " + line, line.startsWith("x.") ? 1 : 0, 0);
                    lines.add(line);
                }
            }
        }
        return lines;
    }

    private static boolean compiled(List<String> program, Path home) throws IOException {
        String source = "public final class Shown { public static void calls(BiConsumer<String, long[]> due) {\n"
            + String.join("\n", program) + "\n} }\n";
        Path file = Files.writeString(home.resolve("Shown.java"), "import java.util.function.BiConsumer;\n" + source);
        JavaCompiler compiler = ToolProvider.getSystemJavaCompiler();
        StringWriter said = new StringWriter();
        List<String> options = List.of("-d", home.toString(), "-cp", System.getProperty("java.class.path"));
        try (StandardJavaFileManager files = compiler.getStandardFileManager(null, null, null)) {
            boolean taken = compiler.getTask(said, files, null, options, null, files.getJavaFileObjects(file)).call();
            Check.same("what the page shows is Java", taken ? "" : said.toString(), "");
            return taken;
        }
    }

    private static void run(Path home) throws IOException, ReflectiveOperationException {
        BiConsumer<String, long[]> due = (call, row) -> Check.due("README: " + call, row[0], row[1]);
        try (URLClassLoader loader = new URLClassLoader(new URL[] {home.toUri().toURL()})) {
            loader.loadClass("Shown").getMethod("calls", BiConsumer.class).invoke(null, due);
        } catch (InvocationTargetException thrown) {
            Check.same("no call throws", String.valueOf(thrown.getCause()), "");
        }
    }

    private static void shownCalls(String page) throws IOException, ReflectiveOperationException {
        List<String> program = program(page);
        long asked = program.stream().filter(line -> line.startsWith("due")).count();
        Check.due("calls are shown", asked >= 30 ? 1 : 0, 1);
        Path home = Files.createTempDirectory("readme");
        if (compiled(program, home)) run(home);
        try (Stream<Path> made = Files.list(home)) {
            for (Path file : made.toList()) Files.delete(file);
        }
        Files.delete(home);
    }

    private static String refusalsIn(String words) {
        Set<String> found = new TreeSet<>();
        Matcher m = REFUSAL.matcher(words);
        while (m.find()) found.add(m.group());
        return found.toString();
    }

    /** The table has each call of the face once, with its numbers, and the refusals that its promise names. */
    private static void tableOfCalls(String page, String document) {
        StringBuilder promised = new StringBuilder();
        Matcher promise = PROMISE.matcher(document);
        while (promise.find()) {
            if (promise.group(1).equals("A")) continue;
            String call = promise.group(2).replaceAll("^`\\w+ (\\w+\\([^)]*\\))`.*", "$1").replaceAll("int ", "");
            promised.append(call).append(' ').append(refusalsIn(promise.group(2))).append('\n');
        }
        StringBuilder shown = new StringBuilder();
        Matcher row = ROW.matcher(page);
        int rows = 0;
        while (row.find()) {
            shown.append(row.group(1)).append('(').append(row.group(2)).append(") ").append(refusalsIn(row.group(4))).append('\n');
            rows++;
        }
        Check.same("the table of calls", shown.toString(), promised.toString());
        int face = 0;
        for (Method m : CenturyTown.class.getDeclaredMethods()) face += Modifier.isPublic(m.getModifiers()) ? 1 : 0;
        Check.due("calls in the table", rows, face);
    }

    private static void constants(String page) {
        String[] shown = {"UNKNOWN (" + CenturyTown.UNKNOWN + ":", "OUTSIDE (" + CenturyTown.OUTSIDE + ":",
            "NOT (" + CenturyTown.NOT + ":", "FULL (" + CenturyTown.FULL + ":", "NONE (" + CenturyTown.NONE + ")"};
        for (String words : shown) Check.due("it says " + words, page.contains(words) ? 1 : 0, 1);
    }

    private static void tableOfTests(String page) throws IOException {
        Set<String> there = new TreeSet<>();
        try (Stream<Path> files = Files.list(Path.of("src/test/java"))) {
            files.map(file -> file.getFileName().toString()).filter(name -> name.endsWith("Test.java"))
                .forEach(name -> there.add(name.replace(".java", "")));
        }
        Set<String> shown = new TreeSet<>();
        Matcher row = Pattern.compile("(?m)^\\| (\\w+Test(?:, \\w+Test)*) \\|").matcher(page);
        while (row.find()) shown.addAll(List.of(row.group(1).split(", ")));
        Check.same("the table of tests", shown.toString(), there.toString());
    }

    public static void main(String[] args) throws IOException, ReflectiveOperationException {
        String page = Files.readString(Path.of("README.md"));
        shownCalls(page);
        tableOfCalls(page, Files.readString(Path.of("../shared/DOC.md")));
        constants(page);
        tableOfTests(page);
        Check.finish("ReadmeTest");
    }
}
