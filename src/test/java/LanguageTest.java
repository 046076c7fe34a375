import java.io.IOException;
import java.nio.file.Files;
import java.nio.file.Path;
import java.util.List;
import java.util.regex.Matcher;
import java.util.regex.Pattern;

/** Those rules of LANGUAGE.md that the words of the program show; it runs in the project's folder. */
public final class LanguageTest {
    private static final Path PROGRAM = Path.of("src/main/java/PeggedBells.java");
    private static final String LIBRARY = "java\\.util\\.(ArrayList|Arrays|Iterator|List|NoSuchElementException)";
    /** The rule's number, and what it forbids. */
    private static final String[][] FORBIDDEN = {
        {"1", "(?m)^\\s*package\\b"},
        {"2", "::"},
        {"3", "\\b(HashMap|Map|Set|Deque|Optional|Object|BigInteger|NaN)\\b"},
        {"4", "\\bimport (?!" + LIBRARY + ";)"},
        {"4", "\\bSystem\\s*\\.(?!arraycopy\\b)"},
        {"4", "\\bMath\\s*\\.\\s*\\w+Exact\\b"},
        {"5", "\\bstatic\\s*\\{"},
        {"6", "\\b(finally|synchronized|assert|equals\\s*\\(\\s*Object|hashCode|toString\\s*\\(\\s*\\)\\s*\\{)"},
        {"6", "\\b(ArrayIndexOutOfBounds|NullPointer|ClassCast|NegativeArraySize|ArrayStore)Exception\\b"},
        {"6", "\\bcatch\\s*\\(\\s*(final\\s+)?(Throwable|Exception|Error)\\b"},
        {"6", "\\bthrow\\s+(?!new\\b)"},
        {"13", "\\b(Random|Thread|currentTimeMillis|nanoTime|getenv|File|Files|Socket|volatile)\\b"},
    };

    private LanguageTest() {
    }

    private static String withoutCommentsAndTexts(String program) {
        String code = Pattern.compile("/\\*.*?\\*/", Pattern.DOTALL).matcher(program).replaceAll(" ");
        code = code.replaceAll("//[^\n]*", " ");
        return code.replaceAll("\"(\\\\.|[^\"\\\\\n])*\"", "\"\"");
    }

    public static void main(String[] args) throws IOException {
        Check.watch();
        String program = Files.readString(PROGRAM);
        String code = withoutCommentsAndTexts(program);
        for (String[] rule : List.of(FORBIDDEN)) {
            Matcher found = Pattern.compile(rule[1]).matcher(code);
            Check.due("rule " + rule[0] + ": " + rule[1], "", found.find() ? found.group() : "");
        }
        Check.due("rule 3: signs of the program above 127", true, program.chars().allMatch(c -> c < 128));
        Check.end("LanguageTest");
    }
}
