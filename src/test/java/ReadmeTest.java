import java.io.IOException;
import java.lang.reflect.Method;
import java.lang.reflect.Modifier;
import java.net.URL;
import java.net.URLClassLoader;
import java.nio.file.Files;
import java.nio.file.Path;
import java.util.ArrayList;
import java.util.List;
import java.util.function.Supplier;
import java.util.regex.Matcher;
import java.util.regex.Pattern;
import javax.tools.ToolProvider;

/** What README.md shows as an example is true as it is written, and it speaks of every call. */
public final class ReadmeTest extends Checks {

    private static final Pattern ANSWERED = Pattern.compile("(int (\\w+) = )?(.+); +// (-?\\w+)(:.*)?");

    public static void main(String[] args) throws IOException, ReflectiveOperationException {
        String readme = Files.readString(Path.of("README.md"));
        dueEveryCall(readme);
        dueExample(example(readme));
        end("the example of README.md is true");
    }

    private static void dueEveryCall(String readme) {
        for (Method m : RunHeap.class.getDeclaredMethods()) {
            if (Modifier.isPublic(m.getModifiers())) {
                due("README.md speaks of " + m.getName(), readme.contains("| `" + m.getName() + "("), true);
            }
        }
    }

    /** Only the first line, which makes the heap, has no answer. */
    private static void dueExample(List<String> lines) throws IOException, ReflectiveOperationException {
        List<String> calls = new ArrayList<>();
        List<String> dueAnswers = new ArrayList<>();
        StringBuilder body = new StringBuilder(lines.get(0)).append('\n');
        for (String line : lines.subList(1, lines.size())) {
            Matcher answered = ANSWERED.matcher(line);
            due("has an answer: " + line, answered.matches(), true);
            body.append(noted(answered));
            calls.add(answered.group(3));
            dueAnswers.add(answered.group(4));
        }
        List<String> answers = answersOf(body.toString());
        for (int i = 0; i < calls.size(); i++) {
            due(calls.get(i), answers.get(i), dueAnswers.get(i));
        }
    }

    private static List<String> example(String readme) {
        String fence = "```";
        int start = readme.indexOf(fence + "java\n") + fence.length() + "java\n".length();
        return readme.substring(start, readme.indexOf(fence, start)).lines().toList();
    }

    /** The line with its answer written down; a declaration stays outside of the try, to be seen later. */
    private static String noted(Matcher answered) {
        String call = answered.group(3);
        if (answered.group(1) != null) {
            return answered.group(1) + call + "; answers.add(\"\" + " + answered.group(2) + ");\n";
        }
        return "try { answers.add(\"\" + (" + call + ")); }"
            + " catch (RuntimeException e) { answers.add(e.getClass().getSimpleName()); }\n";
    }

    @SuppressWarnings("unchecked")
    private static List<String> answersOf(String body) throws IOException, ReflectiveOperationException {
        Path dir = Files.createTempDirectory("readme");
        Path source = dir.resolve("Example.java");
        Path made = dir.resolve("Example.class");
        Files.writeString(source, "import java.util.*;\n"
            + "public class Example implements java.util.function.Supplier<List<String>> {\n"
            + "public List<String> get() {\nList<String> answers = new ArrayList<>();\n"
            + body + "return answers;\n}\n}\n");
        String classPath = System.getProperty("java.class.path");
        int code = ToolProvider.getSystemJavaCompiler().run(null, null, null, "-cp", classPath, source.toString());
        due("exit code of javac for the example", code, 0);
        try (URLClassLoader loader = new URLClassLoader(new URL[] {dir.toUri().toURL()})) {
            Object example = loader.loadClass("Example").getDeclaredConstructor().newInstance();
            return ((Supplier<List<String>>) example).get();
        } finally {
            Files.deleteIfExists(made);
            Files.deleteIfExists(source);
            Files.deleteIfExists(dir);
        }
    }
}
