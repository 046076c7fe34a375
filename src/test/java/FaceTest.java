import java.lang.reflect.Constructor;
import java.lang.reflect.Field;
import java.lang.reflect.Method;
import java.lang.reflect.Modifier;
import java.util.Set;
import java.util.TreeSet;

/** The class has the face that the document writes, and nothing beside it (rule 1 of LANGUAGE.md). */
public final class FaceTest {
    private static final String[] FACE = {
        "boolean turnPeg(int, int) index",
        "int setColumn(int, int) index argument",
        "int setTempo(int, int) index argument",
        "int setWeight(int, int) index argument",
        "int setBound(int) argument",
        "int turnRound()",
        "int move(int) argument",
        "int raise()",
        "int crank(int) argument",
        "int turnBack()",
        "int read() argument",
        "int pegsIn(int) index",
        "int pegs()",
        "int tempoOf(int) index",
        "int weightOf(int) index",
        "int column()",
        "int time()",
        "int heardOf(int) index",
        "int heard(boolean)",
        "int missed()",
        "int whyMissed(int) index",
        "int inRound(int) index",
        "int heardInRound(boolean)",
        "int ticksOfRound(boolean)",
        "int missedInRound()",
        "int busiest()",
        "int longestSilence()",
        "int enoughBound()",
        "int heaviestColumn()",
        "int put(long) argument state",
        "int wipe()",
        "int padLength()",
        "int fault()",
        "int undo() state",
        "int undoable()",
        "int save(int) index",
        "int restore(int) index state",
    };

    private FaceTest() {
    }

    private static String told(Method method) {
        StringBuilder told = new StringBuilder(method.getReturnType().getSimpleName());
        told.append(' ').append(method.getName()).append('(');
        String between = "";
        for (Class<?> type : method.getParameterTypes()) {
            told.append(between).append(type.getSimpleName());
            between = ", ";
        }
        told.append(')');
        for (Class<?> thrown : method.getExceptionTypes()) {
            told.append(' ').append(shortName(thrown));
        }
        return told.toString();
    }

    private static String shortName(Class<?> thrown) {
        if (thrown == IndexOutOfBoundsException.class) {
            return "index";
        }
        if (thrown == IllegalArgumentException.class) {
            return "argument";
        }
        return thrown == IllegalStateException.class ? "state" : thrown.getName();
    }

    private static void methods() {
        Set<String> found = new TreeSet<>();
        Set<String> names = new TreeSet<>();
        for (Method method : PeggedBells.class.getDeclaredMethods()) {
            if (Modifier.isPublic(method.getModifiers())) {
                found.add(told(method));
                names.add(method.getName());
                Check.due(method + " is static", false, Modifier.isStatic(method.getModifiers()));
            }
        }
        Check.due("the public methods", new TreeSet<>(Set.of(FACE)).toString(), found.toString());
        for (Method method : PeggedBells.class.getDeclaredMethods()) {
            if (!Modifier.isPublic(method.getModifiers()) && !method.isSynthetic()) {
                Check.due(method + " is private", true, Modifier.isPrivate(method.getModifiers()));
                Check.due(method + " bears a public name", false, names.contains(method.getName()));
            }
        }
    }

    private static void fields() {
        for (Field field : PeggedBells.class.getDeclaredFields()) {
            int modifiers = field.getModifiers();
            if (field.getName().equals("NONE")) {
                Check.due("NONE is", "public static final int", Modifier.toString(modifiers) + " " + field.getType());
            } else if (!field.isSynthetic()) {
                Check.due(field + " is private", true, Modifier.isPrivate(modifiers));
            }
            if (Modifier.isStatic(modifiers)) {
                Check.due(field + " is final", true, Modifier.isFinal(modifiers));
            }
        }
        Check.due("NONE", -1, PeggedBells.NONE);
    }

    private static void classAndConstructors() {
        Check.due("the class is", "public final", Modifier.toString(PeggedBells.class.getModifiers()));
        Constructor<?>[] constructors = PeggedBells.class.getDeclaredConstructors();
        Check.due("constructors", 1, constructors.length);
        for (Constructor<?> constructor : constructors) {
            Check.due("the constructor", "public PeggedBells()", constructor.toString());
        }
        for (Class<?> inside : PeggedBells.class.getDeclaredClasses()) {
            int open = inside.getModifiers() & (Modifier.PUBLIC | Modifier.PROTECTED);
            Check.due(inside + " is hidden", 0, open);
        }
    }

    public static void main(String[] args) {
        Check.watch();
        classAndConstructors();
        fields();
        methods();
        Check.end("FaceTest");
    }
}
