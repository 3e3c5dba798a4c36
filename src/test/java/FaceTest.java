import java.io.IOException;
import java.lang.reflect.Constructor;
import java.lang.reflect.Field;
import java.lang.reflect.Method;
import java.lang.reflect.Modifier;
import java.nio.file.Files;
import java.nio.file.Path;
import java.util.HashSet;
import java.util.Set;
import java.util.regex.Matcher;
import java.util.regex.Pattern;

/** The public face, and the rules of LANGUAGE.md that a machine can look at. */
public final class FaceTest {
    private static final String[] FACE = {
        "int write(int)", "int erase()", "int fault()", "int town()", "int one(int,int)", "int work(int,int)",
        "int good(int,int)", "int as(int,int)", "int goodAs(int,int)", "int does(int,int)", "int marry(int,int)",
        "int sell(int)", "int oversleep(int,int)", "int sleep(int)", "int undo()", "int keep(int)", "int back(int)",
        "int plan()", "int planOf(int)", "int shortest()", "int sale(int,int)", "long odds(int,int,int)",
        "int sign(int,int,int)", "int forget()", "long likely(int,int,int)", "int wording(int)", "int bears()",
        "int meant(int,int)", "int pairs(int)", "int ballot(int)", "int mayor(int)", "int points(int)", "int swing()",
        "int count(int)"};
    private static final String[] CONSTANTS = {"NONE", "UNKNOWN", "OUTSIDE", "NOT", "FULL"};
    private static final String[] FORBIDDEN = {"throw", "throws", "try", "catch", "synchronized", "assert", "protected",
        "double", "float", "Object", "->", "::", "@", "System.nanoTime", "System.currentTimeMillis", "Random", "System.out",
        "package", "Exact(", "new Object"};
    private static final Set<String> STATIC_TYPES =
        Set.of("int", "long", "boolean", "char", "String", "int[]", "long[]", "char[]", "byte[]");
    private static final Set<String> ARRAYS_AND_SYSTEM =
        Set.of("Arrays.fill", "Arrays.copyOf", "Arrays.copyOfRange", "System.arraycopy");

    private static String signature(Method m) {
        StringBuilder s = new StringBuilder(m.getReturnType().getName() + " " + m.getName() + "(");
        for (int i = 0; i < m.getParameterCount(); i++) {
            s.append(i > 0 ? "," : "").append(m.getParameterTypes()[i].getName());
        }
        return s.append(')').toString();
    }

    private static void face() {
        Set<String> wanted = new HashSet<>(Set.of(FACE));
        for (Method m : CenturyTown.class.getDeclaredMethods()) {
            if (Modifier.isPrivate(m.getModifiers())) continue;
            Check.due("in the face: " + signature(m), wanted.remove(signature(m)) ? 1 : 0, 1);
            Check.due("public: " + m.getName(), Modifier.isPublic(m.getModifiers()) ? 1 : 0, 1);
        }
        Check.due("methods of the face that are missing", wanted.size(), 0);
        Constructor<?>[] made = CenturyTown.class.getDeclaredConstructors();
        Check.due("constructors", made.length, 1);
        Check.due("its parameters", made[0].getParameterCount(), 0);
        Check.due("final class", Modifier.isFinal(CenturyTown.class.getModifiers()) ? 1 : 0, 1);
        int found = 0;
        for (Field f : CenturyTown.class.getDeclaredFields()) {
            for (String name : CONSTANTS) found += f.getName().equals(name) && Modifier.isPublic(f.getModifiers()) ? 1 : 0;
            Check.due("private but for constants: " + f.getName(),
                Modifier.isPrivate(f.getModifiers()) || Set.of(CONSTANTS).contains(f.getName()) ? 1 : 0, 1);
        }
        Check.due("constants", found, 5);
        int[] due = {CenturyTown.NONE, CenturyTown.UNKNOWN, CenturyTown.OUTSIDE, CenturyTown.NOT, CenturyTown.FULL};
        for (int i = 0; i < 5; i++) Check.due(CONSTANTS[i], due[i], -1 - i);
    }

    private static void inside() {
        Class<?>[] classes = CenturyTown.class.getDeclaredClasses();
        Check.due("classes at most twelve", classes.length < 12 ? 1 : 0, 1);
        Set<String> names = new HashSet<>();
        for (Method m : CenturyTown.class.getDeclaredMethods()) if (Modifier.isPublic(m.getModifiers())) names.add(m.getName());
        membersOf(CenturyTown.class, names);
        for (Class<?> c : classes) {
            Check.due("static: " + c, Modifier.isStatic(c.getModifiers()) ? 1 : 0, 1);
            membersOf(c, names);
        }
    }

    private static void membersOf(Class<?> c, Set<String> publicNames) {
        int fields = 0;
        for (Field f : c.getDeclaredFields()) {
            boolean shared = Modifier.isStatic(f.getModifiers());
            fields += shared ? 0 : 1;
            boolean constant = Modifier.isFinal(f.getModifiers()) && STATIC_TYPES.contains(f.getType().getSimpleName());
            Check.due("a static field is a constant: " + f, shared && !constant ? 1 : 0, 0);
        }
        Check.due("fields of " + c, Math.max(fields, 20), 20);
        for (Method m : c.getDeclaredMethods()) {
            boolean own = Modifier.isPublic(m.getModifiers()) || !publicNames.contains(m.getName());
            Check.due("a name of its own: " + m.getName(), own ? 1 : 0, 1);
            Check.due("parameters of " + m.getName(), m.getParameterCount() <= 7 ? 1 : 0, 1);
        }
    }

    private static void words(String source) {
        String code = Pattern.compile("/\\*.*?\\*/", Pattern.DOTALL).matcher(source).replaceAll("").replaceAll("//[^\n]*", "");
        for (String word : FORBIDDEN) {
            String end = Character.isLetter(word.charAt(0)) && !word.endsWith("(") ? "\\b" : "";
            Matcher m = Pattern.compile(end + Pattern.quote(word) + end).matcher(code);
            Check.due("'" + word + "' stands in the code", m.find() ? 1 : 0, 0);
        }
        Matcher imports = Pattern.compile("import ([^;]*);").matcher(code);
        while (imports.find()) {
            Check.due("import " + imports.group(1), imports.group(1).equals("java.util.Arrays") ? 1 : 0, 1);
        }
        for (int i = 0; i < source.length(); i++) {
            if (source.charAt(i) > 126) Check.due("a sign beyond 126 at " + i, source.charAt(i), 0);
        }
    }

    private static void library(String source) {
        Matcher used = Pattern.compile("\\b(?:Arrays|System)\\.\\w+").matcher(source);
        while (used.find()) {
            boolean listed = ARRAYS_AND_SYSTEM.contains(used.group());
            Check.due("in the library that may be used: " + used.group(), listed ? 1 : 0, 1);
        }
    }

    /** What a run makes is counted: rows are made once, in constructors, and no call makes one more. */
    private static void madeInConstructors(String source) {
        Pattern classLine = Pattern.compile(" *(?:public |private |static |final )*class (\\w+) \\{");
        Pattern methodLine = Pattern.compile("(?: {4}| {8})(?:[\\w\\[\\]]+ )*(\\w+)\\(.*\\) \\{");
        String inClass = "";
        String inMethod = "";
        int made = 0;
        for (String line : source.split("\n")) {
            Matcher begins = classLine.matcher(line);
            Matcher method = methodLine.matcher(line);
            if (begins.matches()) inClass = begins.group(1);
            if (method.matches()) inMethod = method.group(1);
            if (!line.matches("\\s*[/*].*") && line.matches(".*\\bnew\\b.*")) {
                made++;
                Check.same("made in a constructor: " + line.trim(), inMethod, inClass);
            }
        }
        Check.due("rows are made", made > 0 ? 1 : 0, 1);
    }

    private static void lengths(String source) {
        int start = -1;
        String[] lines = source.split("\n");
        for (int i = 0; i < lines.length; i++) {
            if (lines[i].matches("( {4}| {8})[a-zA-Z].*\\(.*\\) \\{")) start = i;
            if (lines[i].matches("( {4}| {8})\\}") && start >= 0) {
                if (i - start > 60) Check.due("lines of " + lines[start].trim(), i - start, 60);
                start = -1;
            }
        }
    }

    public static void main(String[] args) throws IOException {
        String source = Files.readString(Path.of("src/main/java/CenturyTown.java"));
        face();
        inside();
        words(source);
        library(source);
        madeInConstructors(source);
        lengths(source);
        Check.finish("FaceTest");
    }
}
