import java.lang.reflect.InvocationTargetException;
import java.lang.reflect.Method;
import java.util.ArrayList;
import java.util.Arrays;
import java.util.Comparator;
import java.util.List;
import java.util.Random;

/** Runs of calls, drawn with a fixed seed, on PeggedBells and on the Model: every answer must be the same. */
public final class ModelTest {
    private static final int RUNS = 1500;
    private static final int CALLS = 512;
    private static final int WRONG_AT_MOST = 20;
    private static final int[] STRANGE = {
        Integer.MIN_VALUE, -1024, -32, -2, -1, 0, 1, 2, 3, 4, 9, 10, 11, 31, 32, 33, 60, 61, 64, 200, 201, 300, 301,
        1023, 1024, 65536, Integer.MAX_VALUE};
    private static final String[] PIECES = {
        ".", ".;", ".9", ".2;", "t", "t0", "t31", "t15;", "t19;", "0:", "31:", "3:9", "1:0", ";", ":", "0", "1", "2",
        "3", "4", "9", "32", "t4", "t00", ".1", "x", "0:0123456789;", "7:;", "00", "10:55;", "29:4;", "2:8;.;", "/",
        "~", "!", "T", "30:1"};
    private static final String[] OFTEN = {
        "turnPeg", "setColumn", "setColumn", "setColumn", "setWeight", "setBound", "crank", "crank", "crank", "undo",
        "whyMissed", "whyMissed", "inRound", "inRound", "enoughBound", "longestSilence", "heaviestColumn", "busiest"};

    private final Random random;
    private final PeggedBells bells = new PeggedBells();
    private final Model model = new Model();
    private final List<Method> methods = new ArrayList<>();
    private final StringBuilder told = new StringBuilder();
    private final boolean strange;
    /** Whether the pad is filled, and seldom read or wiped. */
    private final boolean writing;

    private ModelTest(int run) {
        random = new Random(run);
        strange = run % 4 == 0;
        writing = run % 5 == 0;
        for (Method method : PeggedBells.class.getDeclaredMethods()) {
            if (java.lang.reflect.Modifier.isPublic(method.getModifiers())) {
                methods.add(method);
            }
        }
        methods.sort(Comparator.comparing(Method::getName));
    }

    private Method drawn() {
        if (random.nextInt(3) == 0) {
            String name = OFTEN[random.nextInt(OFTEN.length)];
            for (Method method : methods) {
                if (method.getName().equals(name)) {
                    return method;
                }
            }
        }
        return methods.get(random.nextInt(methods.size()));
    }

    /** Mostly an argument within the range that the method has for it, often its ends. */
    private int number(String method, int index) {
        if (strange && random.nextInt(4) == 0) {
            return random.nextBoolean() ? STRANGE[random.nextInt(STRANGE.length)] : random.nextInt();
        }
        switch (method + index) {
            case "turnPeg0": case "setColumn0": case "pegsIn0": case "inRound0":
                return random.nextInt(random.nextBoolean() ? 6 : 32);
            case "turnPeg1": case "setWeight0": case "weightOf0": case "heardOf0": case "whyMissed0":
                return random.nextInt(10);
            case "setColumn1":
                return random.nextInt(1024) & (random.nextBoolean() ? random.nextInt(1024) : 1023);
            case "setTempo0": case "tempoOf0":
                return random.nextInt(4);
            case "setTempo1":
                return 1 + random.nextInt(9);
            case "setWeight1":
                return random.nextInt(4) == 0 ? 19 + random.nextInt(3) : 1 + random.nextInt(60);
            case "setBound0":
                return 1 + random.nextInt(random.nextBoolean() ? 300 : 100);
            case "move0":
                return 1 + random.nextInt(31);
            case "crank0":
                return random.nextInt(4) == 0 ? 1 + random.nextInt(200) : 1 + random.nextInt(6);
            case "save0": case "restore0":
                return random.nextInt(2);
            default:
                throw new IllegalArgumentException(method + index);
        }
    }

    private long text() {
        if (strange && random.nextInt(4) == 0) {
            return random.nextLong() >> random.nextInt(64);
        }
        if (writing && random.nextBoolean()) {
            return 31 + random.nextInt(98);
        }
        long characters = 0;
        String piece = PIECES[random.nextInt(PIECES.length)];
        for (char c : piece.substring(0, Math.min(8, piece.length())).toCharArray()) {
            characters = characters << 8 | c;
        }
        return characters;
    }

    private Object[] arguments(Method method) {
        Class<?>[] types = method.getParameterTypes();
        Object[] arguments = new Object[types.length];
        for (int i = 0; i < types.length; i++) {
            if (types[i] == long.class) {
                arguments[i] = text();
            } else if (types[i] == boolean.class) {
                arguments[i] = random.nextBoolean();
            } else {
                arguments[i] = number(method.getName(), i);
            }
        }
        return arguments;
    }

    private static String answer(Object object, Method method, Object[] arguments) throws ReflectiveOperationException {
        try {
            return String.valueOf(method.invoke(object, arguments));
        } catch (InvocationTargetException e) {
            return "throws." + e.getCause().getClass().getSimpleName();
        }
    }

    private void call(Method method, Object[] arguments) throws ReflectiveOperationException {
        Method twin = Model.class.getMethod(method.getName(), method.getParameterTypes());
        told.append(method.getName()).append(Arrays.toString(arguments)).append(' ');
        Check.due(told.toString(), answer(model, twin, arguments), answer(bells, method, arguments));
    }

    /** Most texts that are drawn have a fault, so a pad that has none is read at once, mostly. */
    private void run() throws ReflectiveOperationException {
        Method read = PeggedBells.class.getMethod("read");
        Method put = PeggedBells.class.getMethod("put", long.class);
        for (int calls = 0; calls < CALLS && Check.wrong() < WRONG_AT_MOST; calls++) {
            boolean whole = !writing && model.fault() == PeggedBells.NONE;
            Method method = whole && random.nextInt(3) == 0 ? read : drawn();
            if (writing && random.nextInt(3) == 0) {
                method = put;
            }
            call(method, arguments(method));
        }
    }

    public static void main(String[] args) throws ReflectiveOperationException {
        Check.watch();
        for (int run = 0; run < RUNS; run++) {
            new ModelTest(run).run();
        }
        Check.end("ModelTest");
    }
}
