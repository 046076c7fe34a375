import java.io.IOException;
import java.lang.reflect.Method;
import java.lang.reflect.Modifier;
import java.net.URL;
import java.net.URLClassLoader;
import java.nio.file.Files;
import java.nio.file.Path;
import java.util.ArrayList;
import java.util.List;
import java.util.Set;
import java.util.TreeSet;
import java.util.regex.Matcher;
import java.util.regex.Pattern;
import java.util.stream.Stream;
import javax.tools.JavaCompiler;
import javax.tools.ToolProvider;

/** What README.md shows of the class's use holds when it is run, answer by answer; it runs in the project's folder. */
public final class ReadmeTest {
    private static final Path README = Path.of("README.md");
    private static final Path TESTS = Path.of("src/test/java");
    private static final Path BUILD = Path.of("build/readme");
    private static final String NAME = "Shown";
    private static final String MADE = "PeggedBells roll = new PeggedBells();";
    private static final Pattern CALL = Pattern.compile("(\\S.*);\\s+// (-?\\w+)(: .+)?");
    private static final Pattern METHOD = Pattern.compile("\\broll\\.(\\w+)\\(");

    /** A call as the page shows it, and the answer that it shows behind it. */
    private record Shown(int line, String call, String answer) {
    }

    private final List<List<Shown>> pieces = new ArrayList<>();
    private final StringBuilder members = new StringBuilder();

    private ReadmeTest() {
    }

    // ---- what the page shows

    private void readPieces(List<String> page) {
        int start = -1;
        for (int index = 0; index < page.size(); index++) {
            if (page.get(index).equals("```java")) {
                start = index + 1;
            } else if (page.get(index).equals("```") && start >= 0) {
                readPiece(page, start, index);
                start = -1;
            }
        }
        Check.due("a piece is left open", -1, start);
    }

    private void readPiece(List<String> page, int start, int end) {
        if (page.get(start).startsWith("static ")) {
            members.append(String.join("\n", page.subList(start, end))).append('\n');
            return;
        }
        List<Shown> piece = new ArrayList<>();
        Check.due("line " + (start + 1) + " begins a piece with", MADE, page.get(start));
        for (int index = start + 1; index < end; index++) {
            Matcher call = CALL.matcher(page.get(index));
            boolean shown = call.matches();
            Check.due("line " + (index + 1) + " shows a call and its answer: " + page.get(index), true, shown);
            if (shown) {
                piece.add(new Shown(index + 1, call.group(1), call.group(2)));
            }
        }
        pieces.add(piece);
    }

    // ---- running it

    private String program() {
        StringBuilder program = new StringBuilder("public final class " + NAME + " {\n");
        program.append("interface Call { Object answer(); }\n");
        program.append("static String told(Call call) {\n");
        program.append("try { return String.valueOf(call.answer()); }\n");
        program.append("catch (RuntimeException e) { return e.getClass().getSimpleName(); } }\n");
        program.append(members);
        for (int index = 0; index < pieces.size(); index++) {
            program.append("public static String[] piece").append(index).append("() {\n");
            program.append(MADE).append("\nreturn new String[] {\n");
            for (Shown shown : pieces.get(index)) {
                program.append("told(() -> ").append(shown.call()).append("),\n");
            }
            program.append("}; }\n");
        }
        return program.append("}\n").toString();
    }

    private static boolean compile(String program) throws IOException {
        Path file = BUILD.resolve(NAME + ".java");
        Files.createDirectories(BUILD);
        Files.writeString(file, program);
        JavaCompiler compiler = ToolProvider.getSystemJavaCompiler();
        String path = System.getProperty("java.class.path");
        return compiler.run(null, null, null, "-cp", path, "-d", BUILD.toString(), file.toString()) == 0;
    }

    private void runPieces() throws IOException, ReflectiveOperationException {
        boolean compiles = compile(program());
        Check.due("what the page shows compiles", true, compiles);
        if (!compiles) {
            return;
        }
        try (URLClassLoader loader = new URLClassLoader(new URL[] {BUILD.toUri().toURL()})) {
            Class<?> shown = loader.loadClass(NAME);
            for (int index = 0; index < pieces.size(); index++) {
                String[] answers = (String[]) shown.getMethod("piece" + index).invoke(null);
                compare(pieces.get(index), answers);
            }
        }
    }

    private static void compare(List<Shown> piece, String[] answers) {
        for (int index = 0; index < answers.length; index++) {
            Shown shown = piece.get(index);
            // The page is what is tried here, so what the class answers is what is due.
            Check.due("line " + shown.line() + ": " + shown.call() + " shown", answers[index], shown.answer());
        }
    }

    // ---- what it has to show

    private void showsEveryMethod() {
        Set<String> missing = new TreeSet<>();
        for (Method method : PeggedBells.class.getDeclaredMethods()) {
            if (Modifier.isPublic(method.getModifiers())) {
                missing.add(method.getName());
            }
        }
        for (List<Shown> piece : pieces) {
            for (Shown shown : piece) {
                Matcher methods = METHOD.matcher(shown.call());
                while (methods.find()) {
                    missing.remove(methods.group(1));
                }
            }
        }
        Check.due("the methods that the page does not show", "[]", missing.toString());
    }

    private static void tellsOfEveryTest(List<String> page) throws IOException {
        Set<String> missing = new TreeSet<>();
        try (Stream<Path> tests = Files.list(TESTS)) {
            tests.map(test -> test.getFileName().toString()).filter(name -> name.endsWith(".java"))
                    .map(name -> "`" + name.replace(".java", "") + "`").forEach(missing::add);
        }
        missing.add(".ci/run");
        missing.removeIf(String.join("\n", page)::contains);
        Check.due("the tests that the page does not name", "[]", missing.toString());
    }

    public static void main(String[] args) throws IOException, ReflectiveOperationException {
        Check.watch();
        List<String> page = Files.readAllLines(README);
        ReadmeTest test = new ReadmeTest();
        test.readPieces(page);
        test.runPieces();
        test.showsEveryMethod();
        tellsOfEveryTest(page);
        Check.end("ReadmeTest");
    }
}
