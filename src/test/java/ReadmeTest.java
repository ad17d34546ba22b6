import java.io.IOException;
import java.lang.reflect.InvocationTargetException;
import java.lang.reflect.Method;
import java.lang.reflect.Modifier;
import java.net.URL;
import java.net.URLClassLoader;
import java.nio.file.Files;
import java.nio.file.Path;
import java.util.ArrayList;
import java.util.Comparator;
import java.util.List;
import java.util.function.LongConsumer;
import java.util.regex.Matcher;
import java.util.regex.Pattern;
import java.util.stream.Stream;
import javax.tools.ToolProvider;

/** README.md tells the truth: its calls are compiled and run, and it names all calls and all tests there are. */
public final class ReadmeTest extends Check {
    private static final Pattern CALL = Pattern.compile("(?:int (\\w+) = )?(x\\.\\w+\\(.*\\)); *// (-?\\d+)\\b.*");

    private final List<String> calls = new ArrayList<>();
    private final List<Long> told = new ArrayList<>();
    private final List<Long> answers = new ArrayList<>();
    private final StringBuilder code = new StringBuilder();

    public static void main(String[] args) throws Exception {
        String text = Files.readString(Path.of("README.md"));
        new ReadmeTest().answers(text);
        names(text);
        end("ReadmeTest");
    }

    private void answers(String text) throws Exception {
        String[] blocks = text.split("```java\n");
        for (int i = 1; i < blocks.length; i++) blocks[i].substring(0, blocks[i].indexOf("```")).lines().forEach(this::read);
        due("there are calls in README.md", calls.size() > 40 ? 1 : 0, 1);
        run();
        due("answers", answers.size(), told.size());
        for (int i = 0; i < answers.size() && i < told.size(); i++) due("README.md: " + calls.get(i), told.get(i), answers.get(i));
    }

    private void read(String line) {
        Matcher call = CALL.matcher(line);
        if (!call.matches()) {
            due("README.md: its answer is told: " + line, line.contains("x.") ? 1 : 0, 0);
            code.append(line).append('\n');
            return;
        }
        calls.add(line);
        told.add(Long.parseLong(call.group(3)));
        String name = call.group(1) == null ? call.group(2) : call.group(1);
        if (call.group(1) != null) code.append("int ").append(name).append(" = ").append(call.group(2)).append(";\n");
        code.append("heard.accept(").append(name).append(");\n");
    }

    private void run() throws Exception {
        Path out = Files.createTempDirectory("readme");
        try {
            Path source = out.resolve("ReadmeCalls.java");
            Files.writeString(source, "public class ReadmeCalls {\npublic static void say(java.util.function.LongConsumer heard) {\n"
                + code + "}\n}\n");
            String path = System.getProperty("java.class.path");
            int compiled = ToolProvider.getSystemJavaCompiler().run(null, null, null, "-cp", path, "-d", out.toString(), source.toString());
            due("README.md compiles", compiled, 0);
            if (compiled == 0) say(out);
        } finally {
            delete(out);
        }
    }

    private void say(Path out) throws IOException, ReflectiveOperationException {
        try (URLClassLoader loader = new URLClassLoader(new URL[] {out.toUri().toURL()})) {
            LongConsumer heard = answers::add;
            loader.loadClass("ReadmeCalls").getMethod("say", LongConsumer.class).invoke(null, heard);
        } catch (InvocationTargetException e) {
            throw new IllegalStateException("README.md throws", e);
        }
    }

    private static void delete(Path out) throws IOException {
        try (Stream<Path> files = Files.walk(out)) {
            for (Path file : (Iterable<Path>) files.sorted(Comparator.reverseOrder())::iterator) Files.delete(file);
        }
    }

    private static void names(String text) throws IOException {
        for (Method method : HandleMirror.class.getDeclaredMethods()) {
            if (Modifier.isPublic(method.getModifiers())) named(text, method.getName());
        }
        try (Stream<Path> files = Files.list(Path.of("src/test/java"))) {
            for (Path file : (Iterable<Path>) files::iterator) {
                String name = file.getFileName().toString().replace(".java", "");
                if (name.endsWith("Test")) named(text, name);
            }
        }
        Matcher test = Pattern.compile("`(\\w+Test)`").matcher(text);
        while (test.find()) {
            due("README.md: there is " + test.group(1), Files.exists(Path.of("src/test/java", test.group(1) + ".java")) ? 1 : 0, 1);
        }
    }

    private static void named(String text, String name) {
        due("README.md names " + name, text.contains("`" + name + "`") ? 1 : 0, 1);
    }
}
