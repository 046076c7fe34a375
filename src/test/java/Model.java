import java.util.ArrayDeque;
import java.util.ArrayList;
import java.util.Arrays;
import java.util.Collections;
import java.util.Deque;
import java.util.List;
import java.util.Map;
import java.util.TreeMap;
import java.util.TreeSet;
import java.util.regex.Matcher;
import java.util.regex.Pattern;
import java.util.stream.IntStream;

/** The document told a second time, slowly and otherwise than in PeggedBells, so that both can be compared. */
public final class Model {
    private static final String PART = "(?:(?:[0-9]|[12][0-9]|3[01]):[0-9]+|t[0-3][1-9]|\\.[2-9]?)";
    private static final Pattern TEXT = Pattern.compile(PART + "(?:;" + PART + ")*");

    private static final class State {
        final List<TreeSet<Integer>> pegs = new ArrayList<>();
        final int[] tempo = {4, 4, 4, 4};
        final int[] weight = {60, 54, 48, 42, 36, 30, 24, 18, 12, 6};
        int bound = 120;
        int column = 0;
        int time = 0;
        final int[] heard = new int[10];
        int missed = 0;
        int struck = 0;
        /** The number of the strike with which a bell was heard; bells that are not in it have their hammer back. */
        final Map<Integer, Integer> out = new TreeMap<>();

        State() {
            for (int c = 0; c < 32; c++) {
                pegs.add(new TreeSet<>());
            }
        }

        State copy() {
            State s = new State();
            for (int c = 0; c < 32; c++) {
                s.pegs.get(c).addAll(pegs.get(c));
            }
            System.arraycopy(tempo, 0, s.tempo, 0, 4);
            System.arraycopy(weight, 0, s.weight, 0, 10);
            System.arraycopy(heard, 0, s.heard, 0, 10);
            s.bound = bound;
            s.column = column;
            s.time = time;
            s.missed = missed;
            s.struck = struck;
            s.out.putAll(out);
            return s;
        }

        void back() {
            column = 0;
            out.clear();
        }

        int count() {
            int n = 0;
            for (TreeSet<Integer> set : pegs) {
                n += set.size();
            }
            return n;
        }

        int reason(int bell, int above) {
            if (out.containsKey(bell) && struck + 1 - out.get(bell) < weight[bell] / 20 + 1) {
                return 1;
            }
            return above + weight[bell] > bound ? 2 : 0;
        }

        /** For each bell the reason why it would be missed now. */
        int[] reasons() {
            int[] why = new int[10];
            int above = 0;
            for (int b = 0; b < 10; b++) {
                why[b] = 3;
                if (pegs.get(column).contains(b)) {
                    why[b] = reason(b, above);
                    above += why[b] == 0 ? weight[b] : 0;
                }
            }
            return why;
        }

        int strike() {
            int[] why = reasons();
            int n = 0;
            struck++;
            for (int b = 0; b < 10; b++) {
                if (why[b] == 0) {
                    heard[b]++;
                    out.put(b, struck);
                    n++;
                } else if (why[b] != 3) {
                    missed++;
                }
            }
            time += tempo[column / 8];
            column = column == 31 ? 0 : column + 1;
            return n;
        }

        int crank(int columns) {
            int n = 0;
            for (int i = 0; i < columns; i++) {
                n += strike();
            }
            return n;
        }

        int[] heardByColumns() {
            State s = copy();
            s.back();
            int[] sets = new int[32];
            for (int c = 0; c < 32; c++) {
                int[] why = s.reasons();
                for (int b = 0; b < 10; b++) {
                    sets[c] |= why[b] == 0 ? 1 << b : 0;
                }
                s.strike();
            }
            return sets;
        }

        boolean misses2() {
            State s = copy();
            s.back();
            for (int c = 0; c < 32; c++) {
                for (int why : s.reasons()) {
                    if (why == 2) {
                        return true;
                    }
                }
                s.strike();
            }
            return false;
        }

        State afterRound() {
            State s = copy();
            s.back();
            Arrays.fill(s.heard, 0);
            s.missed = 0;
            s.time = 0;
            s.crank(32);
            return s;
        }
    }

    private State now = new State();
    private final Deque<State> history = new ArrayDeque<>();
    private final State[] slots = new State[2];
    private String pad = "";

    public Model() {
    }

    private static void exists(int what, int end) {
        if (what < 0 || what >= end) {
            throw new IndexOutOfBoundsException();
        }
    }

    private static void inRange(int what, int least, int most) {
        if (what < least || what > most) {
            throw new IllegalArgumentException();
        }
    }

    private State change() {
        history.addLast(now.copy());
        if (history.size() > 6) {
            history.removeFirst();
        }
        return history.peekLast();
    }

    private static int mask(TreeSet<Integer> set) {
        int mask = 0;
        for (int b : set) {
            mask += 1 << b;
        }
        return mask;
    }

    private int others(State before) {
        int n = 0;
        for (int c = 0; c < 32; c++) {
            for (int b = 0; b < 10; b++) {
                n += now.pegs.get(c).contains(b) != before.pegs.get(c).contains(b) ? 1 : 0;
            }
        }
        return n;
    }

    private void flip(int column, int bell) {
        TreeSet<Integer> set = now.pegs.get(column);
        if (!set.remove(bell)) {
            set.add(bell);
        }
    }

    public boolean turnPeg(int column, int bell) {
        exists(column, 32);
        exists(bell, 10);
        change();
        flip(column, bell);
        return now.pegs.get(column).contains(bell);
    }

    public int setColumn(int column, int bells) {
        exists(column, 32);
        inRange(bells, 0, 1023);
        State before = change();
        now.pegs.get(column).clear();
        for (int b = 0; b < 10; b++) {
            if ((bells >> b) % 2 == 1) {
                now.pegs.get(column).add(b);
            }
        }
        return others(before);
    }

    public int setTempo(int bar, int tempo) {
        exists(bar, 4);
        inRange(tempo, 1, 9);
        change();
        int before = now.tempo[bar];
        now.tempo[bar] = tempo;
        return before;
    }

    public int setWeight(int bell, int weight) {
        exists(bell, 10);
        inRange(weight, 1, 60);
        change();
        int before = now.weight[bell];
        now.weight[bell] = weight;
        return before;
    }

    public int setBound(int bound) {
        inRange(bound, 1, 300);
        change();
        int before = now.bound;
        now.bound = bound;
        return before;
    }

    public int turnRound() {
        State before = change();
        Collections.reverse(now.pegs);
        return others(before);
    }

    public int move(int columns) {
        inRange(columns, 1, 31);
        State before = change();
        Collections.rotate(now.pegs, columns);
        return others(before);
    }

    public int raise() {
        State before = change();
        for (TreeSet<Integer> set : now.pegs) {
            TreeSet<Integer> raised = new TreeSet<>();
            for (int b : set) {
                if (b < 9) {
                    raised.add(b + 1);
                }
            }
            set.clear();
            set.addAll(raised);
        }
        return before.count() - now.count();
    }

    public int crank(int columns) {
        inRange(columns, 1, 200);
        change();
        return now.crank(columns);
    }

    public int turnBack() {
        change();
        int before = now.column;
        now.back();
        return before;
    }

    public int read() {
        if (fault() != -1) {
            throw new IllegalArgumentException();
        }
        change();
        int n = 0;
        for (String part : pad.split(";")) {
            if (part.startsWith(".")) {
                n += now.crank(part.equals(".") ? 1 : Integer.parseInt(part.substring(1)));
            } else if (part.startsWith("t")) {
                now.tempo[Integer.parseInt(part.substring(1, 2))] = Integer.parseInt(part.substring(2));
            } else {
                String[] sides = part.split(":");
                for (char bell : sides[1].toCharArray()) {
                    flip(Integer.parseInt(sides[0]), bell - '0');
                }
            }
        }
        pad = "";
        return n;
    }

    public int pegsIn(int column) {
        exists(column, 32);
        return mask(now.pegs.get(column));
    }

    public int pegs() {
        return now.count();
    }

    public int tempoOf(int bar) {
        exists(bar, 4);
        return now.tempo[bar];
    }

    public int weightOf(int bell) {
        exists(bell, 10);
        return now.weight[bell];
    }

    public int column() {
        return now.column;
    }

    public int time() {
        return now.time;
    }

    public int heardOf(int bell) {
        exists(bell, 10);
        return now.heard[bell];
    }

    public int heard(boolean byBells) {
        return IntStream.of(now.heard).sum();
    }

    public int missed() {
        return now.missed;
    }

    public int whyMissed(int bell) {
        exists(bell, 10);
        return now.reasons()[bell];
    }

    public int inRound(int column) {
        exists(column, 32);
        return now.heardByColumns()[column];
    }

    public int heardInRound(boolean byColumns) {
        return IntStream.of(now.afterRound().heard).sum();
    }

    public int ticksOfRound(boolean byBars) {
        return now.afterRound().time;
    }

    public int missedInRound() {
        return now.afterRound().missed;
    }

    public int busiest() {
        int[] heard = now.afterRound().heard;
        int best = -1;
        for (int b = 9; b >= 0; b--) {
            if (heard[b] > 0 && (best < 0 || heard[b] >= heard[best])) {
                best = b;
            }
        }
        return best;
    }

    public int longestSilence() {
        StringBuilder text = new StringBuilder();
        for (int set : now.heardByColumns()) {
            text.append(set == 0 ? '-' : 'x');
        }
        int longest = 0;
        while (text.indexOf("-".repeat(longest + 1)) >= 0) {
            longest++;
        }
        return longest;
    }

    public int enoughBound() {
        State s = now.copy();
        for (s.bound = 1; s.bound <= 300; s.bound++) {
            if (!s.misses2()) {
                return s.bound;
            }
        }
        return -1;
    }

    public int heaviestColumn() {
        int[] sets = now.heardByColumns();
        int best = -1;
        int most = 0;
        for (int c = 31; c >= 0; c--) {
            int sum = 0;
            for (int b = 0; b < 10; b++) {
                sum += ((sets[c] >> b) & 1) * now.weight[b];
            }
            if (sum > 0 && sum >= most) {
                most = sum;
                best = c;
            }
        }
        return best;
    }

    public int put(long characters) {
        String text = "";
        boolean ended = false;
        for (int i = 0; i < 8; i++) {
            int code = (int) ((characters >> (8 * i)) & 255);
            if (code == 0) {
                ended = true;
            } else if (ended || code < 33 || code > 126) {
                throw new IllegalArgumentException();
            } else {
                text = (char) code + text;
            }
        }
        if (text.isEmpty()) {
            throw new IllegalArgumentException();
        }
        if (pad.length() + text.length() > 60) {
            throw new IllegalStateException();
        }
        pad += text;
        return pad.length();
    }

    public int wipe() {
        int before = pad.length();
        pad = "";
        return before;
    }

    public int padLength() {
        return pad.length();
    }

    public int fault() {
        for (int i = 0; i < pad.length(); i++) {
            Matcher start = TEXT.matcher(pad.substring(0, i + 1));
            if (!start.matches() && !start.hitEnd()) {
                return i;
            }
        }
        return TEXT.matcher(pad).matches() ? -1 : pad.length();
    }

    public int undo() {
        if (history.isEmpty()) {
            throw new IllegalStateException();
        }
        now = history.removeLast();
        return history.size();
    }

    public int undoable() {
        return history.size();
    }

    public int save(int slot) {
        exists(slot, 2);
        slots[slot] = now.copy();
        return now.count();
    }

    public int restore(int slot) {
        exists(slot, 2);
        if (slots[slot] == null) {
            throw new IllegalStateException();
        }
        change();
        now = slots[slot].copy();
        return now.count();
    }
}
