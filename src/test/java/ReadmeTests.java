import com.sun.source.util.JavacTask;
import java.lang.reflect.Method;
import java.net.URI;
import java.nio.file.Files;
import java.nio.file.Path;
import java.util.ArrayList;
import java.util.HashMap;
import java.util.List;
import java.util.Map;
import java.util.Set;
import java.util.TreeSet;
import java.util.regex.Matcher;
import java.util.regex.Pattern;
import javax.tools.Diagnostic;
import javax.tools.DiagnosticCollector;
import javax.tools.JavaCompiler;
import javax.tools.JavaFileObject;
import javax.tools.SimpleJavaFileObject;
import javax.tools.ToolProvider;

/**
 * What README.md shows of the class's use is so. Its lines of Java are one program: each is played on the object
 * that it names, and has to answer what stands behind its //.
 */
final class ReadmeTests {
    private static final Pattern BLOCK = Pattern.compile("^```java\n(.*?)^```$", Pattern.MULTILINE | Pattern.DOTALL);
    private static final Pattern MAKING = Pattern.compile("Stormbond (\\w+) = new Stormbond\\(\\);");
    private static final Pattern CONSTANT = Pattern.compile("int (\\w+) = (Stormbond\\.\\w+); +// (-?\\d+)");
    private static final Pattern CALL = Pattern.compile("(?:(?:int|long) (\\w+) = )?(\\w+)\\.(\\w+)\\((.*)\\); +// (.+)");
    private static final Map<String, String> THROWN = Map.of("throws IndexOutOfBoundsException", "index",
        "throws IllegalArgumentException", "argument", "throws IllegalStateException", "state");

    private final Suite t;
    private final Map<String, Run> objects = new HashMap<>();
    private final Map<String, String> values = new HashMap<>();
    private final Set<String> played = new TreeSet<>();

    private ReadmeTests(Suite t) {
        this.t = t;
        values.put("Stormbond.NONE", "" + Stormbond.NONE);
        values.put("Stormbond.WIND", "" + Stormbond.WIND);
        values.put("Stormbond.FLOOD", "" + Stormbond.FLOOD);
        values.put("Stormbond.QUAKE", "" + Stormbond.QUAKE);
    }

    static void addTo(Suite s, String path) {
        s.test("README.md: each call that it shows answers what it tells for it", t -> new ReadmeTests(t).play(path));
        s.test("README.md: what it shows is Java that compiles", t -> compile(t, path));
        s.test("README.md: every call of the face with its arguments", t -> calls(t, path));
        s.test("README.md: what a call throws", t -> exceptions(t, path));
    }

    private static String textOf(String path) throws Exception {
        return Files.readString(Path.of(path)).replace("\r", "");
    }

    private static String program(String path) throws Exception {
        StringBuilder b = new StringBuilder();
        Matcher block = BLOCK.matcher(textOf(path));
        while (block.find()) {
            b.append(block.group(1));
        }
        return b.toString();
    }

    private void play(String path) throws Exception {
        for (String line : program(path).split("\n")) {
            if (!line.isBlank() && !isMade(line) && !isConstant(line) && !isCalled(line)) {
                t.fault("no test makes sense of: " + line);
            }
        }
        for (Method m : methodsOfFace()) {
            if (!played.contains(m.getName())) {
                t.fault("it shows no call of " + m.getName());
            }
        }
    }

    private boolean isMade(String line) {
        Matcher m = MAKING.matcher(line);
        if (!m.matches()) {
            return false;
        }
        objects.put(m.group(1), new Run(t));
        return true;
    }

    private boolean isConstant(String line) {
        Matcher m = CONSTANT.matcher(line);
        if (!m.matches() || !values.containsKey(m.group(2))) {
            return false;
        }
        t.due(m.group(2), Long.parseLong(m.group(3)), Long.parseLong(values.get(m.group(2))));
        values.put(m.group(1), m.group(3));
        return true;
    }

    private boolean isCalled(String line) {
        Matcher m = CALL.matcher(line);
        if (!m.matches() || !objects.containsKey(m.group(2))) {
            return false;
        }
        List<String> arguments = new ArrayList<>();
        for (String word : m.group(4).split(",")) {
            arguments.add(values.getOrDefault(word.trim(), word.trim()));
        }
        String want = THROWN.getOrDefault(m.group(5), m.group(5));
        objects.get(m.group(2)).go(m.group(3) + "(" + String.join(", ", arguments) + ") -> " + want);
        played.add(m.group(3));
        if (m.group(1) != null) {
            values.put(m.group(1), want);
        }
        return true;
    }

    private static void compile(Suite t, String path) throws Exception {
        String text = "final class Shown {\nstatic void make() {\n" + program(path) + "}\n}\n";
        JavaFileObject shown = new SimpleJavaFileObject(URI.create("string:///Shown.java"), JavaFileObject.Kind.SOURCE) {
            @Override
            public CharSequence getCharContent(boolean isLenient) {
                return text;
            }
        };
        DiagnosticCollector<JavaFileObject> told = new DiagnosticCollector<>();
        JavaCompiler compiler = ToolProvider.getSystemJavaCompiler();
        ((JavacTask) compiler.getTask(null, null, told, List.of("-proc:none"), null, List.of(shown))).analyze();
        for (Diagnostic<? extends JavaFileObject> one : told.getDiagnostics()) {
            t.fault(one.toString());
        }
    }

    private static List<Method> methodsOfFace() {
        List<Method> all = new ArrayList<>();
        for (Method m : Stormbond.class.getMethods()) {
            if (m.getDeclaringClass() == Stormbond.class) {
                all.add(m);
            }
        }
        return all;
    }

    /** The cells of all rows whose first one is in backticks; the first one without these. */
    private static List<String[]> rows(String path, boolean isOfCalls) throws Exception {
        List<String[]> all = new ArrayList<>();
        for (String line : textOf(path).split("\n")) {
            if (!line.startsWith("| `")) {
                continue;
            }
            String[] cells = line.substring(2, line.length() - 1).split(" ?\\| ?", -1);
            cells[0] = cells[0].replace("`", "").trim();
            if (cells[0].endsWith(")") == isOfCalls) {
                all.add(cells);
            }
        }
        return all;
    }

    private static void calls(Suite t, String path) throws Exception {
        Set<String> want = new TreeSet<>();
        for (Method m : methodsOfFace()) {
            List<String> names = new ArrayList<>();
            for (java.lang.reflect.Parameter p : m.getParameters()) {
                names.add(p.getName());
            }
            want.add(m.getName() + "(" + String.join(", ", names) + ")");
        }
        Set<String> got = new TreeSet<>();
        for (String[] cells : rows(path, true)) {
            got.add(cells[0]);
        }
        if (!want.equals(got)) {
            t.fault("due is " + want + ", there is " + got);
        }
    }

    private static void exceptions(Suite t, String path) throws Exception {
        String[] kinds = {"IndexOutOfBoundsException", "IllegalArgumentException", "IllegalStateException"};
        Map<String, String> want = new HashMap<>();
        for (Method m : methodsOfFace()) {
            List<String> names = new ArrayList<>();
            for (Class<?> c : m.getExceptionTypes()) {
                names.add(c.getSimpleName());
            }
            want.put(m.getName(), String.join(" ", names));
        }
        Map<String, String> got = new HashMap<>();
        for (String[] cells : rows(path, false)) {
            List<String> names = new ArrayList<>();
            for (int i = 0; i < kinds.length; i++) {
                if (!cells[i + 1].isBlank()) {
                    names.add(kinds[i]);
                }
            }
            got.put(cells[0], String.join(" ", names));
        }
        if (!want.equals(got)) {
            t.fault("due is " + want + ", there is " + got);
        }
    }
}
