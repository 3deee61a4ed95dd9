import java.io.ByteArrayOutputStream;
import java.io.IOException;
import java.io.PrintStream;
import java.lang.reflect.Method;
import java.lang.reflect.Modifier;
import java.net.URL;
import java.net.URLClassLoader;
import java.nio.file.Files;
import java.nio.file.Path;
import java.util.ArrayList;
import java.util.List;
import javax.tools.JavaCompiler;
import javax.tools.ToolProvider;

/** README.md: its example prints what the comments behind its printing lines say, and its table has each call. */
public final class ReadmeTest {
    private static final String PRINTS = "System.out.println(";

    public static void main(String[] args) throws Exception {
        List<String> page = Files.readAllLines(Path.of("README.md"));
        List<String> example = exampleIn(page);
        Checks.due("the lines that the example prints", printedBy(example), promisedBy(example));
        everyCallIsOnThe(page);
        Checks.end();
    }

    private static List<String> exampleIn(List<String> page) {
        int start = page.indexOf("```java");
        List<String> behind = page.subList(start + 1, page.size());
        return behind.subList(0, behind.indexOf("```"));
    }

    private static List<String> promisedBy(List<String> example) {
        List<String> answers = new ArrayList<>();
        for (String line : example) {
            if (line.contains(PRINTS)) {
                answers.add(line.substring(line.lastIndexOf("// ") + 3));
            }
        }
        return answers;
    }

    private static List<String> printedBy(List<String> example) throws Exception {
        Path folder = Files.createDirectories(Path.of("build", "example"));
        Path source = folder.resolve("Example.java");
        Files.write(source, example);
        compile(source, folder);
        PrintStream terminal = System.out;
        ByteArrayOutputStream printed = new ByteArrayOutputStream();
        try (URLClassLoader loader = new URLClassLoader(new URL[] {folder.toUri().toURL()})) {
            System.setOut(new PrintStream(printed, true));
            loader.loadClass("Example").getMethod("main", String[].class).invoke(null, (Object) new String[0]);
        } finally {
            System.setOut(terminal);
        }
        return printed.toString().lines().toList();
    }

    private static void compile(Path source, Path folder) throws IOException {
        JavaCompiler compiler = ToolProvider.getSystemJavaCompiler();
        String classes = System.getProperty("java.class.path");
        int code = compiler.run(null, null, null, "-cp", classes, "-d", folder.toString(), source.toString());
        Checks.due("javac of the example ends with", code, 0);
    }

    private static void everyCallIsOnThe(List<String> page) {
        for (Method method : MarbleRamps.class.getDeclaredMethods()) {
            if (Modifier.isPublic(method.getModifiers())) {
                String call = "`" + method.getName() + "(";
                int parameters = method.getParameterCount();
                boolean found = page.stream().anyMatch(line -> line.startsWith("| `") && line.contains(call)
                    && parametersOf(line.substring(line.indexOf(call) + call.length())) == parameters);
                Checks.due("the table has " + call + " with " + parameters + " parameters", found, true);
            }
        }
    }

    private static int parametersOf(String behindBracket) {
        String inside = behindBracket.substring(0, behindBracket.indexOf(')'));
        return inside.isEmpty() ? 0 : inside.split(",").length;
    }
}
