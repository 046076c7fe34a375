import java.util.LinkedHashMap;
import java.util.Map;
import java.util.function.Consumer;
import java.util.function.Function;
import java.util.function.Supplier;

/** What the tests do with rolls: numbers that do not exist, texts that are put, and rolls compared from all sides. */
final class Rolls {
    static final int[] NO_COLUMNS = {Integer.MIN_VALUE, -1, 32, Integer.MAX_VALUE};
    static final int[] NO_BELLS = {Integer.MIN_VALUE, -1, 10, Integer.MAX_VALUE};
    static final int[] NO_BARS = {Integer.MIN_VALUE, -1, 4, Integer.MAX_VALUE};
    static final int[] NO_SLOTS = {Integer.MIN_VALUE, -1, 2, Integer.MAX_VALUE};
    static final Class<IndexOutOfBoundsException> INDEX = IndexOutOfBoundsException.class;
    static final Class<IllegalArgumentException> ARGUMENT = IllegalArgumentException.class;
    static final Class<IllegalStateException> STATE = IllegalStateException.class;
    private static final String USED_PAD = "7:1;.4";

    private Rolls() {
    }

    // ---- texts

    static int put(PeggedBells x, String text) {
        int length = x.padLength();
        for (int start = 0; start < text.length(); start += 8) {
            length = x.put(number(text.substring(start, Math.min(text.length(), start + 8))));
        }
        return length;
    }

    static long number(String text) {
        long number = 0;
        for (char c : text.toCharArray()) {
            number = number << 8 | c;
        }
        return number;
    }

    static int read(PeggedBells x, String text) {
        put(x, text);
        return x.read();
    }

    static int faultOf(String text) {
        PeggedBells x = new PeggedBells();
        put(x, text);
        return x.fault();
    }

    // ---- rolls

    /** A roll with the pegs of the columns from 0 on. */
    static PeggedBells with(int... columns) {
        PeggedBells x = new PeggedBells();
        for (int column = 0; column < columns.length; column++) {
            x.setColumn(column, columns[column]);
        }
        return x;
    }

    /** A roll on which nothing is as it was at first, with four changes to undo; some twenty calls. */
    static PeggedBells used() {
        PeggedBells x = new PeggedBells();
        read(x, "0:019;1:29;2:0;3:01234;4:56789;9:3;31:0;t15;t39");
        x.save(0);
        x.setWeight(9, 25);
        x.setBound(170);
        x.save(1);
        x.crank(35);
        put(x, USED_PAD);
        return x;
    }

    /** Each method that is a change, with arguments that it does not refuse on a used roll. */
    static Map<String, Consumer<PeggedBells>> changes() {
        Map<String, Consumer<PeggedBells>> changes = new LinkedHashMap<>();
        changes.put("turnPeg", x -> x.turnPeg(3, 0));
        changes.put("setColumn", x -> x.setColumn(3, 1000));
        changes.put("setTempo", x -> x.setTempo(0, 9));
        changes.put("setWeight", x -> x.setWeight(0, 1));
        changes.put("setBound", x -> x.setBound(17));
        changes.put("turnRound", PeggedBells::turnRound);
        changes.put("move", x -> x.move(13));
        changes.put("raise", PeggedBells::raise);
        changes.put("crank", x -> x.crank(11));
        changes.put("turnBack", PeggedBells::turnBack);
        changes.put("read", PeggedBells::read);
        changes.put("restore", x -> x.restore(0));
        return changes;
    }

    // ---- looking at a roll; each of these is for a roll that is not needed any more, as some of them change it

    /** Some seventy answers that change nothing. */
    static String all(PeggedBells x) {
        StringBuilder told = new StringBuilder();
        for (int column = 0; column < 32; column++) {
            told.append(x.pegsIn(column)).append(' ');
        }
        for (int bar = 0; bar < 4; bar++) {
            told.append(x.tempoOf(bar)).append(' ');
        }
        for (int bell = 0; bell < 10; bell++) {
            told.append(x.weightOf(bell)).append('/').append(x.heardOf(bell)).append('/');
            told.append(x.whyMissed(bell)).append(' ');
        }
        told.append(x.column()).append(' ').append(x.time()).append(' ').append(x.heard(false)).append(' ');
        told.append(x.missed()).append(' ').append(x.heardInRound(false)).append(' ').append(x.enoughBound());
        return told.toString();
    }

    /** With the bound, and with how long each hammer would yet be missed, were it as heavy as can be. */
    static String now(PeggedBells x) {
        StringBuilder told = new StringBuilder(all(x));
        told.append(' ').append(x.setBound(300));
        for (int bell = 0; bell < 10; bell++) {
            x.setWeight(bell, 60);
        }
        for (int columns = 0; columns < 4; columns++) {
            x.setColumn(x.column(), 1023);
            told.append(' ');
            for (int bell = 0; bell < 10; bell++) {
                told.append(x.whyMissed(bell));
            }
            x.setColumn(x.column(), 0);
            x.crank(1);
        }
        return told.toString();
    }

    static String pad(PeggedBells x) {
        int fault = x.fault();
        String told = "length " + x.padLength() + " fault " + fault;
        return fault == PeggedBells.NONE ? told + " heard " + x.read() + " " + all(x) : told;
    }

    static String past(PeggedBells x) {
        StringBuilder told = new StringBuilder();
        int undoable = x.undoable();
        told.append(undoable);
        for (int times = 0; times < undoable; times++) {
            told.append(' ').append(x.undo()).append(": ").append(all(x));
        }
        return told.toString();
    }

    static String slots(PeggedBells x) {
        StringBuilder told = new StringBuilder();
        for (int slot = 0; slot < 2; slot++) {
            try {
                told.append(x.restore(slot)).append(": ").append(now(x)).append(' ');
            } catch (IllegalStateException e) {
                told.append("nothing saved ");
            }
        }
        return told.toString();
    }

    // ---- comparing rolls

    private static void compare(
            String what, Function<PeggedBells, String> view, Supplier<PeggedBells> one, Supplier<PeggedBells> other) {
        Check.due(what, view.apply(one.get()), view.apply(other.get()));
    }

    /** Whether both are the same roll from all sides. */
    static void same(String what, Supplier<PeggedBells> one, Supplier<PeggedBells> other) {
        compare(what + ": what there is", Rolls::now, one, other);
        compare(what + ": the pad", Rolls::pad, one, other);
        compare(what + ": the history", Rolls::past, one, other);
        compare(what + ": the slots", Rolls::slots, one, other);
    }

    static PeggedBells after(PeggedBells x, Consumer<PeggedBells> calls) {
        calls.accept(x);
        return x;
    }

    static void changesNothing(String what, Consumer<PeggedBells> calls) {
        same(what, Rolls::used, () -> after(used(), calls));
    }

    /** A change is recorded once, and undo brings everything back but the pad. */
    static void isChange(String what, Consumer<PeggedBells> change) {
        PeggedBells x = used();
        int undoable = x.undoable();
        change.accept(x);
        Check.due(what + ": undoable", undoable + 1, x.undoable());
        same(what + " undone", Rolls::used, () -> after(used(), y -> {
            change.accept(y);
            y.undo();
            y.wipe();
            put(y, USED_PAD);
        }));
    }

    static int one(boolean is) {
        return is ? 1 : 0;
    }
}
