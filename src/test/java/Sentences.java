import java.io.IOException;
import java.nio.file.Files;
import java.nio.file.Path;
import java.util.LinkedHashMap;
import java.util.Map;

/** The sentences of the document, each with a test of its own; what no test takes up is told at the end. */
final class Sentences {
    private static final Path DOCUMENT = Path.of("../shared/DOC.md");

    /** A section's text without the methods' signatures, and which of its characters a test has taken up. */
    private static final class Section {
        final StringBuilder text = new StringBuilder();
        boolean[] taken = new boolean[0];

        void add(String line) {
            text.append(line).append('\n');
            taken = new boolean[text.length()];
        }

        boolean take(String quote) {
            int start = text.indexOf(quote);
            for (int index = 0; start >= 0 && index < quote.length(); index++) {
                taken[start + index] = true;
            }
            return start >= 0;
        }

        String untaken() {
            StringBuilder left = new StringBuilder();
            for (int index = 0; index < taken.length; index++) {
                left.append(taken[index] ? ' ' : text.charAt(index));
            }
            return left.toString().replaceAll("\\s+", " ").trim();
        }
    }

    private final Map<String, Section> sections = new LinkedHashMap<>();
    private final String only;
    private String section = "";

    /** Only those tests are run whose section and sentence have these words in them; all, if they are empty. */
    Sentences(String only) throws IOException {
        this.only = only;
        Section reading = new Section();
        for (String line : Files.readAllLines(DOCUMENT)) {
            if (line.startsWith("#")) {
                String title = line.replaceAll("^#+ ", "").replaceAll("^(Promise [0-9]+):.*", "$1");
                reading = new Section();
                sections.put(title, reading);
            } else {
                reading.add(withoutSignature(line));
            }
        }
    }

    private static String withoutSignature(String line) {
        return line.replaceAll("^`[^`]*\\)[^`]*`: ", "");
    }

    void in(String name) {
        section = name;
    }

    void test(String quote, Runnable test) {
        String name = section + ": " + quote;
        take(quote);
        if (!name.contains(only)) {
            return;
        }
        Check.about(name);
        int before = Check.asked();
        try {
            test.run();
        } catch (RuntimeException e) {
            Check.due("the test", "no exception", e.toString());
        }
        Check.due("the test asks something", true, Check.asked() > before);
    }

    /** A heading, or what tells only what the others are about. */
    void promisesNothing(String quote) {
        take(quote);
    }

    private void take(String quote) {
        Section read = sections.get(section);
        boolean stands = read != null && read.take(quote);
        Check.about("the document");
        Check.due(section + " says: " + quote, true, stands);
    }

    void end(String last) {
        Check.about("the document");
        for (Map.Entry<String, Section> entry : sections.entrySet()) {
            if (entry.getKey().equals(last)) {
                return;
            }
            if (entry.getValue().taken.length > 0 && !entry.getKey().equals("The public face")) {
                String left = entry.getValue().untaken();
                Check.due("what no test takes up of " + entry.getKey(), "", left);
            }
        }
    }
}
