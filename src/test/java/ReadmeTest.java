import java.io.IOException;
import java.net.URL;
import java.net.URLClassLoader;
import java.nio.charset.StandardCharsets;
import java.nio.file.Files;
import java.nio.file.Path;
import java.util.ArrayList;
import java.util.Comparator;
import java.util.List;
import java.util.function.Supplier;
import java.util.regex.Matcher;
import java.util.regex.Pattern;
import java.util.stream.Collectors;
import java.util.stream.Stream;
import javax.tools.JavaCompiler;
import javax.tools.ToolProvider;

/** The example of README.md does what stands behind its calls, and README.md names every call and what it takes. */
final class ReadmeTest {
    private static final String NAME = "ReadmeExample";
    private static final Pattern ANSWERED = Pattern.compile("(x\\..*\\));\\s+// (throws \\w+|[^ :]+)(:.*)?");
    private static final Pattern CALL = Pattern.compile("`(\\w+)\\(([^`)]*)\\)`");

    private ReadmeTest() {
    }

    static void run(Path readme) {
        try {
            String text = Files.readString(readme, StandardCharsets.UTF_8);
            namesEveryCall(text);
            Path build = Files.createTempDirectory("readme");
            try {
                exampleIsTrue(text, build);
            } finally {
                remove(build);
            }
        } catch (IOException | ReflectiveOperationException e) {
            Check.due("the example of " + readme + " can be run", "", e.toString());
        }
    }

    private static void namesEveryCall(String text) {
        String table = text.substring(text.indexOf("| Call |"), text.indexOf("An object has at most"));
        List<String> named = new ArrayList<>();
        Matcher call = CALL.matcher(table);
        while (call.find()) {
            named.add(call.group(1) + " " + (call.group(2).isEmpty() ? 0 : call.group(2).split(",").length));
        }
        List<String> due = Stream.of(Versefold.class.getMethods())
                .filter(method -> method.getDeclaringClass() == Versefold.class)
                .map(method -> method.getName() + " " + method.getParameterCount()).sorted()
                .collect(Collectors.toList());
        Check.due("the calls that README.md names", due, named.stream().sorted().collect(Collectors.toList()));
    }

    private static void exampleIsTrue(String text, Path build) throws IOException, ReflectiveOperationException {
        int start = text.indexOf("```java\n") + 8;
        List<String> lines = text.substring(start, text.indexOf("```", start)).lines().collect(Collectors.toList());
        List<String> calls = new ArrayList<>();
        List<String> dues = new ArrayList<>();
        StringBuilder body = new StringBuilder();
        for (String line : lines) {
            Matcher answered = ANSWERED.matcher(line);
            if (answered.matches()) {
                calls.add(answered.group(1));
                dues.add(answered.group(2));
                body.append("try { all.add(String.valueOf(").append(answered.group(1)).append(")); }\n");
                body.append("catch (RuntimeException e) { all.add(\"throws \" + e.getClass().getSimpleName()); }\n");
            } else {
                Check.due("a call with an answer, a remark or the first line: " + line, true,
                        line.isBlank() || line.startsWith("//") || line.equals("Versefold x = new Versefold();"));
                body.append(line).append('\n');
            }
        }
        List<?> answers = answers(body, build);
        Check.due("the calls of the example are there", true, calls.size() > 20 && calls.size() == answers.size());
        for (int i = 0; i < Math.min(calls.size(), answers.size()); i++) {
            Check.due("README.md: " + calls.get(i), dues.get(i), answers.get(i));
        }
    }

    /** What the calls answer, found by a class that is made of the example. */
    private static List<?> answers(CharSequence body, Path build) throws IOException, ReflectiveOperationException {
        Path file = build.resolve(NAME + ".java");
        Files.writeString(file, "public class " + NAME + " implements java.util.function.Supplier<Object> {\n"
                + "public Object get() {\njava.util.List<String> all = new java.util.ArrayList<>();\n"
                + body + "return all;\n}\n}\n");
        JavaCompiler compiler = ToolProvider.getSystemJavaCompiler();
        String classPath = System.getProperty("java.class.path");
        int failed = compiler.run(null, null, null, "-cp", classPath, "-d", build.toString(), file.toString());
        Check.due("the example of README.md compiles", 0, failed);
        if (failed != 0) {
            return List.of();
        }
        URL[] places = {build.toUri().toURL()};
        try (URLClassLoader loader = new URLClassLoader(places, ReadmeTest.class.getClassLoader())) {
            Class<?> example = Class.forName(NAME, true, loader);
            return (List<?>) ((Supplier<?>) example.getConstructor().newInstance()).get();
        }
    }

    private static void remove(Path directory) throws IOException {
        try (Stream<Path> paths = Files.walk(directory)) {
            for (Path path : paths.sorted(Comparator.reverseOrder()).collect(Collectors.toList())) {
                Files.delete(path);
            }
        }
    }
}
