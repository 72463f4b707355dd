import java.io.IOException;
import java.lang.reflect.Method;
import java.lang.reflect.Modifier;
import java.net.URL;
import java.net.URLClassLoader;
import java.nio.file.DirectoryStream;
import java.nio.file.Files;
import java.nio.file.Path;
import java.util.ArrayList;
import java.util.List;
import java.util.regex.Matcher;
import java.util.regex.Pattern;
import javax.tools.ToolProvider;

/**
 * The examples of README.md are compiled as they stand there, and each call answers what stands behind it:
 * a number, NONE, nothing (of a void method), or throws and an exception's name; a remark may follow a colon.
 */
public final class ReadmeTest {
    private static final Due DUE = new Due("ReadmeTest");
    private static final Path README = Path.of("README.md");
    private static final Path TESTS = Path.of("src", "test", "java");
    private static final Pattern CALL =
        Pattern.compile("(x\\.(\\w+)\\(.*\\)); *// (-?\\d+|NONE|nothing|throws \\w+)(: .*)?");

    public static void main(String[] args) throws Exception {
        List<String> readme = Files.readAllLines(README);
        List<List<String>> examples = examples(readme);
        DUE.same("there are examples (1: so it is)", examples.isEmpty() ? 0 : 1, 1);
        for (int k = 0; k < examples.size(); k++) {
            answersAreAsShown("Example" + k, examples.get(k));
        }
        everyMethodIsShown(examples);
        everyTestIsNamed(readme);
        DUE.end();
    }

    /** The lines of each part of the file that is marked as Java. */
    private static List<List<String>> examples(List<String> readme) {
        List<List<String>> examples = new ArrayList<>();
        List<String> open = null;
        for (String line : readme) {
            if (line.equals("```java")) {
                open = new ArrayList<>();
                examples.add(open);
            } else if (line.equals("```")) {
                open = null;
            } else if (open != null) {
                open.add(line);
            }
        }
        return examples;
    }

    private static void answersAreAsShown(String name, List<String> lines) throws Exception {
        List<String> calls = new ArrayList<>();
        List<String> shown = new ArrayList<>();
        StringBuilder body = new StringBuilder();
        for (String line : lines) {
            Matcher call = CALL.matcher(line);
            if (call.matches()) {
                calls.add(call.group(1));
                shown.add(call.group(3).replace("NONE", "" + PageMonitor.NONE));
                body.append(asking(call.group(1), call.group(2).equals("key")));
            } else {
                DUE.same(line + " shows an answer (1: so it does)", line.startsWith("x.") ? 0 : 1, 1);
                body.append(line).append('\n');
            }
        }
        List<String> answers = new ArrayList<>();
        compiled(name, body.toString()).invoke(null, answers);
        DUE.same(name + ": answers", answers.size(), shown.size());
        for (int k = 0; k < answers.size(); k++) {
            DUE.text("README.md, " + name + ": " + calls.get(k), answers.get(k), shown.get(k));
        }
    }

    private static String asking(String call, boolean isVoid) {
        String asked = isVoid ? call + "; answers.add(\"nothing\");" : "answers.add(\"\" + " + call + ");";
        return "try { " + asked + " } catch (RuntimeException e) {"
            + " answers.add(\"throws \" + e.getClass().getSimpleName()); }\n";
    }

    /** A method of one list of texts, to which it adds what the calls answer. */
    private static Method compiled(String name, String body) throws Exception {
        Path room = Files.createTempDirectory("readme");
        Path source = room.resolve(name + ".java");
        Path made = room.resolve(name + ".class");
        try {
            Files.writeString(source, "public final class " + name
                + " { public static void ask(java.util.List<String> answers) {\n" + body + "} }\n");
            int exit = ToolProvider.getSystemJavaCompiler().run(null, null, null,
                "-cp", System.getProperty("java.class.path"), "-d", room.toString(), source.toString());
            DUE.same(name + " compiles", exit, 0);
            try (URLClassLoader loader = new URLClassLoader(new URL[] {room.toUri().toURL()})) {
                return loader.loadClass(name).getMethod("ask", List.class);
            }
        } finally {
            Files.deleteIfExists(source);
            Files.deleteIfExists(made);
            Files.delete(room);
        }
    }

    /** Who reads the examples has seen each method of the face. */
    private static void everyMethodIsShown(List<List<String>> examples) {
        for (Method m : PageMonitor.class.getDeclaredMethods()) {
            if (Modifier.isPublic(m.getModifiers())) {
                String start = "x." + m.getName() + "(";
                boolean shown = examples.stream().anyMatch(e -> e.stream().anyMatch(l -> l.startsWith(start)));
                DUE.same(start + ") is shown (1: so it is)", shown ? 1 : 0, 1);
            }
        }
    }

    /** Who reads how to run the tests has seen each of them. */
    private static void everyTestIsNamed(List<String> readme) throws IOException {
        try (DirectoryStream<Path> files = Files.newDirectoryStream(TESTS, "*Test.java")) {
            for (Path file : files) {
                String row = "| " + file.getFileName().toString().replace(".java", "") + " |";
                boolean named = readme.stream().anyMatch(line -> line.startsWith(row));
                DUE.same(row + " is in README.md (1: so it is)", named ? 1 : 0, 1);
            }
        }
    }
}
