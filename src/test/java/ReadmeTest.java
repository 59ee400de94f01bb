import com.sun.source.util.JavacTask;
import java.io.IOException;
import java.lang.reflect.InvocationTargetException;
import java.lang.reflect.Method;
import java.net.URI;
import java.nio.file.DirectoryStream;
import java.nio.file.Files;
import java.nio.file.Path;
import java.util.ArrayList;
import java.util.List;
import java.util.Set;
import java.util.TreeSet;
import java.util.regex.Matcher;
import java.util.regex.Pattern;
import javax.tools.Diagnostic;
import javax.tools.DiagnosticCollector;
import javax.tools.JavaCompiler;
import javax.tools.JavaFileObject;
import javax.tools.SimpleJavaFileObject;
import javax.tools.ToolProvider;

/** What README.md says: its calls compile, and answer as it says; each call of the face and each test stands there. */
public final class ReadmeTest {
    private static final String NEW_HOUSE = "KeeperHouse house = new KeeperHouse();";
    private static final Pattern CALL =
            Pattern.compile("house\\.(\\w+)\\(([^()]*)\\);\\s*// (throws \\w+|[\\w.-]+)(: .+)?");
    private static final Pattern TEST_NAME = Pattern.compile("\\w+Test\\b");

    private static final Set<String> made = new TreeSet<>();

    private static List<List<String>> examples(List<String> lines) {
        List<List<String>> all = new ArrayList<>();
        boolean isInside = false;
        for (String line : lines) {
            if (line.startsWith("```")) {
                isInside = line.equals("```java");
                if (isInside) {
                    all.add(new ArrayList<>());
                }
            } else if (isInside) {
                all.get(all.size() - 1).add(line);
            }
        }
        return all;
    }

    private static Object value(String told) throws ReflectiveOperationException {
        if (told.equals("true") || told.equals("false")) {
            return Boolean.valueOf(told);
        }
        if (told.startsWith("KeeperHouse.")) {
            return KeeperHouse.class.getField(told.substring("KeeperHouse.".length())).get(null);
        }
        return told.equals("nothing") ? null : Integer.valueOf(told);
    }

    private static Method methodOf(String name) {
        for (Method method : KeeperHouse.class.getMethods()) {
            if (method.getName().equals(name) && method.getDeclaringClass() == KeeperHouse.class) {
                return method;
            }
        }
        throw new IllegalArgumentException("README.md calls " + name);
    }

    private static String answer(KeeperHouse house, String name, String arguments)
            throws ReflectiveOperationException {
        List<Object> values = new ArrayList<>();
        for (String argument : arguments.isEmpty() ? new String[0] : arguments.split(", ")) {
            values.add(value(argument));
        }
        try {
            return String.valueOf(methodOf(name).invoke(house, values.toArray()));
        } catch (InvocationTargetException e) {
            return "throws " + e.getCause().getClass().getSimpleName();
        }
    }

    private static void make(List<String> example) throws ReflectiveOperationException {
        Due.is("an example's first line", example.get(0), NEW_HOUSE);
        KeeperHouse house = new KeeperHouse();
        for (String line : example.subList(1, example.size())) {
            Matcher call = CALL.matcher(line);
            Due.is("a call and its answer: " + line, call.matches(), true);
            if (call.matches()) {
                made.add(call.group(1));
                String told = call.group(3);
                String due = told.startsWith("throws ") ? told : String.valueOf(value(told));
                Due.is(line, answer(house, call.group(1), call.group(2)), due);
            }
        }
        Due.is("an example makes 512 calls at most", example.size() <= Twins.MOST_CALLS, true);
    }

    private static void compile(List<List<String>> examples) throws IOException {
        StringBuilder source = new StringBuilder("final class Example {\n");
        for (int i = 0; i < examples.size(); i++) {
            source.append("void example").append(i).append("() {\n");
            source.append(String.join("\n", examples.get(i))).append("\n}\n");
        }
        source.append("}\n");
        JavaFileObject file = new SimpleJavaFileObject(URI.create("string:///Example.java"),
                JavaFileObject.Kind.SOURCE) {
            @Override
            public CharSequence getCharContent(boolean isIgnoringErrors) {
                return source;
            }
        };
        JavaCompiler compiler = ToolProvider.getSystemJavaCompiler();
        DiagnosticCollector<JavaFileObject> told = new DiagnosticCollector<>();
        List<String> options = List.of("-cp", System.getProperty("java.class.path"), "-proc:none");
        ((JavacTask) compiler.getTask(null, null, told, options, null, List.of(file))).analyze();
        for (Diagnostic<?> found : told.getDiagnostics()) {
            Due.fail("README.md's examples: " + found);
        }
    }

    private static void everyCallStandsThere() {
        for (String name : Calls.NAMES) {
            Due.is("an example calls " + name, made.contains(name), true);
        }
    }

    private static void everyTestStandsThere(String readme, Path tests) throws IOException {
        Set<String> told = new TreeSet<>();
        Matcher names = TEST_NAME.matcher(readme);
        while (names.find()) {
            told.add(names.group());
        }
        Set<String> there = new TreeSet<>();
        try (DirectoryStream<Path> files = Files.newDirectoryStream(tests, "*Test.java")) {
            for (Path file : files) {
                there.add(file.getFileName().toString().replace(".java", ""));
            }
        }
        told.remove("EdgesTest");
        Due.is("the tests that README.md names", told.toString(), there.toString());
    }

    public static void main(String[] args) throws IOException, ReflectiveOperationException {
        Path root = Path.of(args[0]).toAbsolutePath().getParent().getParent().getParent().getParent();
        List<String> lines = Files.readAllLines(root.resolve("README.md"));
        List<List<String>> examples = examples(lines);
        Due.is("there are examples", examples.isEmpty(), false);
        for (List<String> example : examples) {
            make(example);
        }
        compile(examples);
        everyCallStandsThere();
        everyTestStandsThere(String.join("\n", lines), root.resolve("src/test/java"));
        Due.end("ReadmeTest");
    }
}
