import java.io.IOException;
import java.lang.reflect.Constructor;
import java.lang.reflect.Field;
import java.lang.reflect.Method;
import java.lang.reflect.Modifier;
import java.nio.file.Files;
import java.nio.file.Path;
import java.util.ArrayList;
import java.util.List;
import java.util.Set;
import java.util.TreeSet;

/** The class has the face that the document writes, word by word, and nothing beside it (rule 1 of LANGUAGE.md). */
public final class FaceTest {
    private static final Path DOCUMENT = Path.of("../shared/DOC.md");
    private static final Path PROGRAM = Path.of("src/main/java/PeggedBells.java");

    private FaceTest() {
    }

    // ---- what the document writes

    private static List<String> face() throws IOException {
        List<String> lines = Files.readAllLines(DOCUMENT);
        int start = lines.indexOf("## The public face") + 1;
        while (!lines.get(start).equals("```java")) {
            start++;
        }
        int end = lines.subList(start, lines.size()).indexOf("```") + start;
        List<String> face = new ArrayList<>();
        for (String line : lines.subList(start + 1, end)) {
            face.add(line.trim());
        }
        return face;
    }

    /** A signature without the names of its parameters, as reflection tells it. */
    private static String withoutNames(String signature) {
        return signature.replaceAll("(int|long|boolean) \\w+(?=[,)])", "$1").replace(";", "");
    }

    private static boolean isMethod(String line) {
        return line.contains("(") && !line.startsWith("public PeggedBells(");
    }

    private static void standsInTheProgram(List<String> face) throws IOException {
        String program = Files.readString(PROGRAM);
        int from = 0;
        for (String line : face) {
            String written = line.contains("(") ? line.replace(";", " {") : line;
            int found = program.indexOf(written, from);
            Check.due("behind the one before stands " + line, true, line.equals("}") || found >= 0);
            from = Math.max(from, found);
        }
        Check.due("a package line", false, program.matches("(?s)(.*\n)?\\s*package\\b.*"));
    }

    // ---- what the class has

    private static String told(Method method) {
        List<String> types = new ArrayList<>();
        for (Class<?> type : method.getParameterTypes()) {
            types.add(type.getSimpleName());
        }
        List<String> thrown = new ArrayList<>();
        for (Class<?> type : method.getExceptionTypes()) {
            thrown.add(type.getSimpleName());
        }
        String told = Modifier.toString(method.getModifiers()) + " " + method.getReturnType().getSimpleName() + " "
                + method.getName() + "(" + String.join(", ", types) + ")";
        return thrown.isEmpty() ? told : told + " throws " + String.join(", ", thrown);
    }

    private static void methods(List<String> face) {
        Set<String> due = new TreeSet<>();
        for (String line : face) {
            if (isMethod(line)) {
                due.add(withoutNames(line));
            }
        }
        Set<String> found = new TreeSet<>();
        Set<String> names = new TreeSet<>();
        for (Method method : PeggedBells.class.getDeclaredMethods()) {
            if (Modifier.isPublic(method.getModifiers())) {
                found.add(told(method));
                names.add(method.getName());
            }
        }
        Check.due("how many methods there are", 37, due.size());
        Check.due("the public methods", due.toString(), found.toString());
        for (Method method : PeggedBells.class.getDeclaredMethods()) {
            if (!Modifier.isPublic(method.getModifiers()) && !method.isSynthetic()) {
                Check.due(method + " is private", true, Modifier.isPrivate(method.getModifiers()));
                Check.due(method + " bears a public name", false, names.contains(method.getName()));
            }
        }
        for (Class<?> inside : PeggedBells.class.getDeclaredClasses()) {
            for (Method method : inside.getDeclaredMethods()) {
                Check.due(method + " bears a public name", false, names.contains(method.getName()));
            }
        }
    }

    private static void fields() {
        for (Field field : PeggedBells.class.getDeclaredFields()) {
            int modifiers = field.getModifiers();
            if (field.getName().equals("NONE")) {
                Check.due("NONE is", "public static final int", Modifier.toString(modifiers) + " " + field.getType());
            } else if (!field.isSynthetic()) {
                Check.due(field + " is private", true, Modifier.isPrivate(modifiers));
            }
        }
        Check.due("NONE", -1, PeggedBells.NONE);
    }

    private static void classAndConstructors() {
        Check.due("the class is", "public final", Modifier.toString(PeggedBells.class.getModifiers()));
        Check.due("the class above it", "class java.lang.Object", PeggedBells.class.getSuperclass().toString());
        Check.due("its interfaces", 0, PeggedBells.class.getInterfaces().length);
        Constructor<?>[] constructors = PeggedBells.class.getDeclaredConstructors();
        Check.due("constructors", 1, constructors.length);
        for (Constructor<?> constructor : constructors) {
            Check.due("the constructor", "public PeggedBells()", constructor.toGenericString());
        }
        for (Class<?> inside : PeggedBells.class.getDeclaredClasses()) {
            int modifiers = inside.getModifiers();
            Check.due(inside + " is hidden", 0, modifiers & (Modifier.PUBLIC | Modifier.PROTECTED));
            Check.due(inside + " is static", true, Modifier.isStatic(modifiers));
        }
    }

    public static void main(String[] args) throws IOException {
        Check.watch();
        List<String> face = face();
        standsInTheProgram(face);
        classAndConstructors();
        fields();
        methods(face);
        Check.end("FaceTest");
    }
}
