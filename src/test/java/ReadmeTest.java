import java.io.IOException;
import java.io.UncheckedIOException;
import java.lang.reflect.Method;
import java.lang.reflect.Modifier;
import java.net.URL;
import java.net.URLClassLoader;
import java.nio.file.Files;
import java.nio.file.Path;
import java.util.ArrayList;
import java.util.Comparator;
import java.util.List;
import java.util.regex.Matcher;
import java.util.regex.Pattern;
import java.util.stream.Stream;
import javax.tools.ToolProvider;

/** What README.md says is so: its Java is compiled and run, and each number behind // is what the call answers. */
public final class ReadmeTest {
    private static final Path PAGE = Path.of("README.md");
    private static final Path TESTS = Path.of("src/test/java");
    private static final Pattern BLOCK = Pattern.compile("^```java\n(.*?)^```$", Pattern.MULTILINE | Pattern.DOTALL);
    private static final Pattern ANSWER = Pattern.compile("(?:int (\\w+) = )?(.*);\\s*// (-?[0-9]+)\\b.*");
    private static final Pattern TEST = Pattern.compile("^\\| `(\\w+)` \\|", Pattern.MULTILINE);

    public static void main(String[] args) throws IOException, ReflectiveOperationException {
        String page = Files.readString(PAGE);
        List<String> lines = new ArrayList<>();
        Matcher block = BLOCK.matcher(page);
        while (block.find()) {
            lines.addAll(block.group(1).lines().toList());
        }
        Path folder = Files.createTempDirectory("readme");
        try {
            for (Object[] answer : answers(folder, program(lines))) {
                Check.same((String) answer[0], (Integer) answer[1], (Integer) answer[2]);
            }
        } finally {
            remove(folder);
        }
        everyMethod(page);
        everyTest(page);
        Check.end();
    }

    /** One program of all lines, which holds each answer beside the number behind it. */
    private static String program(List<String> lines) {
        StringBuilder program = new StringBuilder("public final class Readme {\n"
            + "public static java.util.List<Object[]> run() {\n"
            + "java.util.List<Object[]> answers = new java.util.ArrayList<>();\n");
        for (String line : lines) {
            Matcher answer = ANSWER.matcher(line);
            if (answer.matches() && answer.group(1) != null) {
                program.append(line).append('\n').append(kept(line, answer.group(3), answer.group(1)));
            } else if (answer.matches()) {
                program.append(kept(line, answer.group(3), answer.group(2)));
            } else {
                Check.same("a call without its answer: " + line, 0, line.startsWith("engine.") ? 1 : 0);
                program.append(line).append('\n');
            }
        }
        return program.append("return answers;\n}\n}\n").toString();
    }

    private static String kept(String line, String due, String got) {
        String name = line.substring(0, line.indexOf(';')).replace("\"", "");
        return "answers.add(new Object[] {\"README.md: " + name + "\", " + due + ", " + got + "});\n";
    }

    @SuppressWarnings("unchecked")
    private static List<Object[]> answers(Path folder, String program) throws IOException, ReflectiveOperationException {
        Path file = folder.resolve("Readme.java");
        Files.writeString(file, program);
        int exit = ToolProvider.getSystemJavaCompiler().run(null, null, null, "--release", "17", "-cp",
            System.getProperty("java.class.path"), "-d", folder.toString(), file.toString());
        Check.same("its Java compiles", 0, exit);
        if (exit != 0) {
            return List.of();
        }
        try (URLClassLoader loader = new URLClassLoader(new URL[] {folder.toUri().toURL()})) {
            List<Object[]> answers = (List<Object[]>) loader.loadClass("Readme").getMethod("run").invoke(null);
            Check.same("its Java has answers", 1, answers.isEmpty() ? 0 : 1);
            return answers;
        }
    }

    private static void remove(Path folder) throws IOException {
        try (Stream<Path> files = Files.walk(folder)) {
            files.sorted(Comparator.reverseOrder()).forEach(file -> {
                try {
                    Files.delete(file);
                } catch (IOException e) {
                    throw new UncheckedIOException(e);
                }
            });
        }
    }

    /** The page's program calls each method but those that its table of questions shows. */
    private static void everyMethod(String page) {
        for (Method method : WorkflowEngine.class.getDeclaredMethods()) {
            if (Modifier.isPublic(method.getModifiers())) {
                String name = method.getName();
                boolean shown = page.contains("engine." + name + "(") || page.contains("| `" + name + "(");
                Check.same("README.md shows " + name, 1, shown ? 1 : 0);
            }
        }
    }

    /** The tests that the page names are those that there are. */
    private static void everyTest(String page) throws IOException {
        int named = 0;
        Matcher test = TEST.matcher(page);
        while (test.find()) {
            if (test.group(1).endsWith("Test")) {
                named++;
                boolean there = Files.exists(TESTS.resolve(test.group(1) + ".java"));
                Check.same("there is " + test.group(1), 1, there ? 1 : 0);
            }
        }
        try (Stream<Path> files = Files.list(TESTS)) {
            long there = files.filter(file -> file.toString().endsWith("Test.java")).count();
            Check.same("tests that README.md names", there, named);
        }
    }
}
