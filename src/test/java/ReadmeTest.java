import java.io.IOException;
import java.lang.reflect.Method;
import java.lang.reflect.Modifier;
import java.net.URL;
import java.net.URLClassLoader;
import java.nio.file.Files;
import java.nio.file.Path;
import java.util.ArrayList;
import java.util.List;
import java.util.regex.Matcher;
import java.util.regex.Pattern;
import javax.tools.ToolProvider;

/** The example of README.md compiles, shows the whole face, and its calls answer what stands behind them. */
public final class ReadmeTest {
    private static final Path README = Path.of("README.md");
    private static final Pattern BLOCK = Pattern.compile("```java\n(.*?)```", Pattern.DOTALL);
    private static final String MADE = "ScreenDesk desk = new ScreenDesk();";
    private static final Pattern CALL = Pattern.compile("(desk\\..*); +// (throws \\w+|-?\\w+)(:.*)?");

    public static void main(String[] args) throws Exception {
        List<String> calls = new ArrayList<>();
        List<String> due = new ArrayList<>();
        read(example(), calls, due);
        showsTheWholeFace(calls);
        Probe.same("calls of one object", calls.size() <= 512, true);
        List<String> got = answers(calls);
        Probe.same("answers", got.size(), due.size());
        for (int i = 0; i < Math.min(got.size(), due.size()); i++) {
            Probe.same("README.md: " + calls.get(i), got.get(i), due.get(i));
        }
        Probe.finish();
    }

    private static String example() throws IOException {
        Matcher block = BLOCK.matcher(Files.readString(README));
        Probe.same("README.md has an example", block.find(), true);
        String example = block.group(1);
        Probe.same("README.md has one example alone", block.find(), false);
        return example;
    }

    private static void read(String example, List<String> calls, List<String> due) {
        List<String> lines = example.lines().filter(line -> !line.isBlank() && !line.startsWith("//")).toList();
        Probe.same("the example begins with", lines.get(0), MADE);
        for (String line : lines.subList(1, lines.size())) {
            Matcher call = CALL.matcher(line);
            boolean hasAnswer = call.matches();
            Probe.same("a call and its answer: " + line, hasAnswer, true);
            if (hasAnswer) {
                calls.add(call.group(1));
                due.add(call.group(2));
            }
        }
    }

    private static void showsTheWholeFace(List<String> calls) {
        for (Method method : ScreenDesk.class.getDeclaredMethods()) {
            if (Modifier.isPublic(method.getModifiers())) {
                String begin = "desk." + method.getName() + "(";
                Probe.same("the example shows " + method, calls.stream().anyMatch(call -> call.startsWith(begin)), true);
            }
        }
    }

    /** The calls are compiled as they stand, so that the example is known to be Java. */
    private static List<String> answers(List<String> calls) throws Exception {
        StringBuilder source = new StringBuilder("public final class Example { public static void run(");
        source.append("java.util.List<Object> answers) {\n").append(MADE).append('\n');
        for (String call : calls) {
            source.append("try { answers.add(").append(call).append("); }");
            source.append(" catch (RuntimeException thrown) { answers.add(thrown); }\n");
        }
        List<Object> answers = new ArrayList<>();
        Path room = Files.createTempDirectory("readme");
        Path file = Files.writeString(room.resolve("Example.java"), source.append("} }\n"));
        Path made = room.resolve("Example.class");
        try {
            int refused = ToolProvider.getSystemJavaCompiler().run(null, null, null,
                "-cp", System.getProperty("java.class.path"), "-d", room.toString(), file.toString());
            Probe.same("the example does not compile", refused, 0);
            if (refused == 0) {
                run(room, answers);
            }
        } finally {
            Files.deleteIfExists(made);
            Files.delete(file);
            Files.delete(room);
        }
        return answers.stream().map(ReadmeTest::written).toList();
    }

    private static void run(Path room, List<Object> answers) throws Exception {
        try (URLClassLoader loader = new URLClassLoader(new URL[] {room.toUri().toURL()})) {
            loader.loadClass("Example").getMethod("run", List.class).invoke(null, answers);
        }
    }

    private static String written(Object answer) {
        return answer instanceof RuntimeException ? "throws " + answer.getClass().getSimpleName() : answer.toString();
    }
}
