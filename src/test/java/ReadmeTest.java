import java.io.IOException;
import java.lang.reflect.InvocationTargetException;
import java.lang.reflect.Method;
import java.net.URL;
import java.net.URLClassLoader;
import java.nio.file.Files;
import java.nio.file.Path;
import java.util.ArrayList;
import java.util.Comparator;
import java.util.List;
import java.util.stream.Stream;
import javax.tools.JavaCompiler;
import javax.tools.ToolProvider;

/** What README.md says that calls answer: its pieces of program are compiled as one run. */
public final class ReadmeTest {
    private static final Check CHECK = new Check("ReadmeTest");
    private static final Path README = Path.of("README.md");
    private static final String DUE = "// -> ";

    public static void main(String[] args) throws Exception {
        List<String> run = new ArrayList<>();
        List<String> helpers = new ArrayList<>();
        for (List<String> piece : pieces(Files.readAllLines(README))) {
            (piece.get(0).startsWith("static ") ? helpers : run).addAll(piece);
        }
        namesAllCalls(run, helpers);
        Path folder = Files.createTempDirectory("readme");
        try {
            compare(run, answers(folder, run, helpers));
        } finally {
            remove(folder);
        }
        CHECK.end();
    }

    private static List<List<String>> pieces(List<String> page) {
        List<List<String>> pieces = new ArrayList<>();
        boolean isInside = false;
        for (String line : page) {
            if (line.startsWith("```")) {
                isInside = line.equals("```java");
                if (isInside) {
                    pieces.add(new ArrayList<>());
                }
            } else if (isInside) {
                pieces.get(pieces.size() - 1).add(line);
            }
        }
        return pieces;
    }

    private static void namesAllCalls(List<String> run, List<String> helpers) {
        String all = String.join("\n", run) + String.join("\n", helpers);
        for (Method method : PhraseFerry.class.getMethods()) {
            if (method.getDeclaringClass() == PhraseFerry.class) {
                CHECK.is("the page uses " + method.getName(), all.contains("x." + method.getName() + "("), true);
            }
        }
    }

    /** A call with an answer behind it hands its own answer to a list. */
    private static String program(List<String> run, List<String> helpers) {
        StringBuilder out = new StringBuilder("public final class Page {\n");
        out.append(String.join("\n", helpers)).append('\n');
        out.append("public static void run(java.util.List<Object> answers) {\n");
        for (String line : run) {
            int end = line.indexOf(';');
            out.append(line.contains(DUE) ? "answers.add(" + line.substring(0, end) + ");" : line).append('\n');
        }
        return out.append("}\n}\n").toString();
    }

    private static List<Object> answers(Path folder, List<String> run, List<String> helpers) throws Exception {
        Path source = Files.writeString(folder.resolve("Page.java"), program(run, helpers));
        JavaCompiler compiler = ToolProvider.getSystemJavaCompiler();
        int failed = compiler.run(null, null, null, "-d", folder.toString(),
                "-cp", System.getProperty("java.class.path"), source.toString());
        CHECK.is("the page compiles", failed, 0);
        List<Object> answers = new ArrayList<>();
        if (failed == 0) {
            try (URLClassLoader loader = new URLClassLoader(new URL[] {folder.toUri().toURL()})) {
                loader.loadClass("Page").getMethod("run", List.class).invoke(null, answers);
            } catch (InvocationTargetException e) {
                CHECK.is("behind the last answer", e.getCause().toString(), "nothing is thrown");
            }
        }
        return answers;
    }

    private static void compare(List<String> run, List<Object> answers) {
        List<String> told = run.stream().filter(line -> line.contains(DUE)).toList();
        CHECK.is("each call answers", answers.size(), told.size());
        for (int i = 0; i < Math.min(answers.size(), told.size()); i++) {
            String line = told.get(i);
            String due = line.substring(line.indexOf(DUE) + DUE.length());
            CHECK.is(line.substring(0, line.indexOf(';')), String.valueOf(answers.get(i)), due);
        }
    }

    private static void remove(Path folder) throws IOException {
        try (Stream<Path> files = Files.walk(folder)) {
            for (Path file : files.sorted(Comparator.reverseOrder()).toList()) {
                Files.delete(file);
            }
        }
    }
}
