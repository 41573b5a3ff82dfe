import java.io.IOException;
import java.lang.reflect.Method;
import java.lang.reflect.Modifier;
import java.net.URL;
import java.net.URLClassLoader;
import java.nio.file.Files;
import java.nio.file.Path;
import java.util.ArrayList;
import java.util.List;
import java.util.Map;
import java.util.Set;
import java.util.TreeMap;
import java.util.TreeSet;
import java.util.function.Supplier;
import java.util.regex.Matcher;
import java.util.regex.Pattern;
import javax.tools.JavaCompiler;
import javax.tools.ToolProvider;

/** What README.md shows of the class is as the class answers, and it shows every call. */
public final class ReadmeTest extends Checks {
    private static final Path README = Path.of("README.md");
    private static final String BLOCK_BEGINS = "```java";
    private static final String BLOCK_ENDS = "```";
    private static final Pattern CALL = Pattern.compile("sorter\\.(\\w+)\\(.*?\\)(?=;)");
    private static final Pattern SHOWN = Pattern.compile("// *(-?\\d+|\\w+Exception)(?![\\w-]).*");
    private static final Pattern ROW = Pattern.compile("\\| `(\\w+)\\(([^)]*)\\)` \\|[^|]+\\|([^|]*)\\|");
    private static final Pattern EXCEPTION = Pattern.compile("`(\\w+Exception)`");
    private static final String NO_ANSWER = "nothing";

    public static void main(String[] args) throws Exception {
        List<String> readme = Files.readAllLines(README);
        Map<String, Method> calls = callsOfTheFace();
        holdExamples(readme, calls);
        holdTable(readme, calls);
        finish();
    }

    private static Map<String, Method> callsOfTheFace() {
        Map<String, Method> calls = new TreeMap<>();
        for (Method method : LineSorter.class.getDeclaredMethods()) {
            if (Modifier.isPublic(method.getModifiers())) {
                calls.put(method.getName(), method);
            }
        }
        return calls;
    }

    private static void holdExamples(List<String> readme, Map<String, Method> calls) throws Exception {
        under("the examples of README.md");
        Set<String> shown = new TreeSet<>();
        List<String> program = new ArrayList<>();
        boolean isCode = false;
        for (int at = 0; at < readme.size(); at++) {
            String line = readme.get(at).trim();
            if (isCode && line.equals(BLOCK_ENDS)) {
                isCode = false;
                program.add("}");
            } else if (isCode) {
                program.add(translated(line, "line " + (at + 1), calls, shown));
            } else if (line.equals(BLOCK_BEGINS)) {
                isCode = true;
                program.add("{");
            }
        }
        due("every block has its end", !isCode, true);
        due("the calls that are shown", shown, calls.keySet());
        for (String[] answer : answersOf(program)) {
            due(answer[0], answer[1], answer[2]);
        }
    }

    /** A call becomes one that is told with the answer that is shown behind it; other code stays. */
    private static String translated(String line, String where, Map<String, Method> calls, Set<String> shown) {
        Matcher call = CALL.matcher(line);
        if (!call.lookingAt()) {
            due(where + " makes an object or is empty", line.isEmpty() || line.matches("LineSorter \\w+ = .*"), true);
            return line;
        }
        String name = call.group(1);
        shown.add(name);
        Matcher answer = SHOWN.matcher(line.substring(call.end() + 1).trim());
        boolean hasAnswer = answer.matches();
        boolean isVoid = calls.containsKey(name) && calls.get(name).getReturnType() == void.class;
        due(where + " shows an answer or has none to show", hasAnswer || isVoid, true);
        String told = isVoid ? "{ " + call.group() + "; return \"" + NO_ANSWER + "\"; }" : "\"\" + " + call.group();
        return "tell(\"" + where + ", " + name + "\", () -> " + told + ", \"" + (hasAnswer ? answer.group(1) : NO_ANSWER)
                + "\");";
    }

    private static List<String[]> answersOf(List<String> program) throws Exception {
        Path folder = Files.createTempDirectory("readme");
        try {
            Path source = folder.resolve("Examples.java");
            Files.write(source, sourceAround(program));
            JavaCompiler compiler = ToolProvider.getSystemJavaCompiler();
            int faults = compiler.run(null, null, null, "-encoding", "UTF-8", "-implicit:none", "-cp",
                    System.getProperty("java.class.path"), "-d", folder.toString(), source.toString());
            due("the examples compile", faults == 0, true);
            return faults == 0 ? answersOfClassIn(folder) : List.of();
        } finally {
            emptyAndDelete(folder);
        }
    }

    private static List<String> sourceAround(List<String> program) {
        List<String> source = new ArrayList<>(List.of(
                "public class Examples implements java.util.function.Supplier<java.util.List<String[]>> {",
                "private final java.util.List<String[]> answers = new java.util.ArrayList<>();",
                "private void tell(String what, java.util.function.Supplier<String> call, String due) {",
                "String got;",
                "try { got = call.get(); } catch (RuntimeException e) { got = e.getClass().getSimpleName(); }",
                "answers.add(new String[] {what, got, due}); }",
                "public java.util.List<String[]> get() {"));
        source.addAll(program);
        source.add("return answers; } }");
        return source;
    }

    @SuppressWarnings("unchecked")
    private static List<String[]> answersOfClassIn(Path folder) throws Exception {
        URL[] places = {folder.toUri().toURL()};
        try (URLClassLoader loader = new URLClassLoader(places, ReadmeTest.class.getClassLoader())) {
            Object examples = loader.loadClass("Examples").getConstructor().newInstance();
            return ((Supplier<List<String[]>>) examples).get();
        }
    }

    private static void emptyAndDelete(Path folder) throws IOException {
        try (var files = Files.newDirectoryStream(folder)) {
            for (Path file : files) {
                Files.delete(file);
            }
        }
        Files.delete(folder);
    }

    private static void holdTable(List<String> readme, Map<String, Method> calls) {
        under("the table of calls in README.md");
        Set<String> told = new TreeSet<>();
        for (String line : readme) {
            Matcher row = ROW.matcher(line);
            if (row.matches() && calls.containsKey(row.group(1))) {
                Method call = calls.get(row.group(1));
                told.add(call.getName());
                int parameters = row.group(2).isEmpty() ? 0 : row.group(2).split(", ").length;
                due("parameters of " + call.getName(), parameters, call.getParameterCount());
                due("exceptions of " + call.getName(), exceptionsIn(row.group(3)), exceptionsOf(call));
            }
        }
        due("the calls that are told", told, calls.keySet());
    }

    private static Set<String> exceptionsIn(String cell) {
        Set<String> names = new TreeSet<>();
        Matcher exception = EXCEPTION.matcher(cell);
        while (exception.find()) {
            names.add(exception.group(1));
        }
        return names;
    }

    private static Set<String> exceptionsOf(Method call) {
        Set<String> names = new TreeSet<>();
        for (Class<?> type : call.getExceptionTypes()) {
            names.add(type.getSimpleName());
        }
        return names;
    }
}
