import java.util.Arrays;

/** A carillon practice roll: a drum with pegs for bells, which a crank turns column by column. */
public final class PeggedBells {
    public static final int NONE = -1;

    private static final int BARS = 4;
    private static final int COLUMNS_OF_BAR = 8;
    private static final int COLUMNS = 32;
    private static final int BELLS = 10;
    private static final int LAST_BELL = 9;
    private static final int ALL_BELLS = 1023;

    private static final int FIRST_TEMPO = 4;
    private static final int MOST_TEMPO = 9;
    private static final int MOST_WEIGHT = 60;
    private static final int WEIGHT_STEP = 6;
    private static final int FIRST_BOUND = 120;
    private static final int MOST_BOUND = 300;
    private static final int MOST_CRANKED = 200;

    /** The weight that costs a hammer one more column to come back. */
    private static final int WEIGHT_OF_A_COLUMN = 20;
    /** So many columns after a strike even the heaviest bell's hammer is back with the next one. */
    private static final int LONGEST_REST = 3;
    /** More than all bells can weigh together, so that nothing is missed for the bound. */
    private static final int NO_BOUND = 601;

    private static final int WOULD_BE_HEARD = 0;
    private static final int HAMMER_NOT_BACK = 1;
    private static final int TOO_MUCH = 2;
    private static final int NO_PEG = 3;

    private static final int HISTORY = 6;
    private static final int SLOTS = 2;

    private final Drum drum = new Drum();
    private final Round round = new Round();
    private final Pad pad = new Pad();
    private final History history = new History();
    private final Drum[] slots = new Drum[SLOTS];

    public PeggedBells() {
    }

    // ---- changes

    public boolean turnPeg(int column, int bell) throws IndexOutOfBoundsException {
        if (!isColumn(column) || !isBell(bell)) {
            throw new IndexOutOfBoundsException("no such column or bell");
        }
        history.add(drum);
        drum.pegs[column] ^= 1 << bell;
        return holds(drum.pegs[column], bell);
    }

    public int setColumn(int column, int bells) throws IndexOutOfBoundsException, IllegalArgumentException {
        if (!isColumn(column)) {
            throw new IndexOutOfBoundsException("no such column");
        }
        if (bells < 0 || bells > ALL_BELLS) {
            throw new IllegalArgumentException("no set of bells");
        }
        Drum before = history.add(drum);
        drum.pegs[column] = bells;
        return drum.pegsOtherThan(before);
    }

    public int setTempo(int bar, int tempo) throws IndexOutOfBoundsException, IllegalArgumentException {
        if (!isBar(bar)) {
            throw new IndexOutOfBoundsException("no such bar");
        }
        if (tempo < 1 || tempo > MOST_TEMPO) {
            throw new IllegalArgumentException("no tempo");
        }
        Drum before = history.add(drum);
        drum.tempos[bar] = tempo;
        return before.tempos[bar];
    }

    public int setWeight(int bell, int weight) throws IndexOutOfBoundsException, IllegalArgumentException {
        if (!isBell(bell)) {
            throw new IndexOutOfBoundsException("no such bell");
        }
        if (weight < 1 || weight > MOST_WEIGHT) {
            throw new IllegalArgumentException("no weight");
        }
        Drum before = history.add(drum);
        drum.weights[bell] = weight;
        return before.weights[bell];
    }

    public int setBound(int bound) throws IllegalArgumentException {
        if (bound < 1 || bound > MOST_BOUND) {
            throw new IllegalArgumentException("no bound");
        }
        Drum before = history.add(drum);
        drum.bound = bound;
        return before.bound;
    }

    public int turnRound() {
        Drum before = history.add(drum);
        for (int column = 0; column < COLUMNS; column++) {
            drum.pegs[COLUMNS - 1 - column] = before.pegs[column];
        }
        return drum.pegsOtherThan(before);
    }

    public int move(int columns) throws IllegalArgumentException {
        if (columns < 1 || columns >= COLUMNS) {
            throw new IllegalArgumentException("no number of columns to move by");
        }
        Drum before = history.add(drum);
        for (int column = 0; column < COLUMNS; column++) {
            drum.pegs[(column + columns) % COLUMNS] = before.pegs[column];
        }
        return drum.pegsOtherThan(before);
    }

    public int raise() {
        history.add(drum);
        int takenOut = 0;
        for (int column = 0; column < COLUMNS; column++) {
            int bells = drum.pegs[column];
            if (holds(bells, LAST_BELL)) {
                takenOut++;
            }
            drum.pegs[column] = (bells << 1) & ALL_BELLS;
        }
        return takenOut;
    }

    public int crank(int columns) throws IllegalArgumentException {
        if (columns < 1 || columns > MOST_CRANKED) {
            throw new IllegalArgumentException("no number of columns to crank");
        }
        history.add(drum);
        return drum.strikeColumns(columns);
    }

    public int turnBack() {
        Drum before = history.add(drum);
        drum.atHand = 0;
        drum.hammers.allBack();
        return before.atHand;
    }

    public int read() throws IllegalArgumentException {
        if (pad.firstFault() != NONE) {
            throw new IllegalArgumentException("the pad has a fault");
        }
        history.add(drum);
        int heard = 0;
        int start = 0;
        for (int index = 0; index <= pad.length; index++) {
            if (index == pad.length || pad.at(index) == ';') {
                heard += doPart(start, index);
                start = index + 1;
            }
        }
        pad.clear();
        return heard;
    }

    // ---- what there is; nothing changes

    public int pegsIn(int column) throws IndexOutOfBoundsException {
        if (!isColumn(column)) {
            throw new IndexOutOfBoundsException("no such column");
        }
        return drum.pegs[column];
    }

    public int pegs() {
        return drum.countPegs();
    }

    public int tempoOf(int bar) throws IndexOutOfBoundsException {
        if (!isBar(bar)) {
            throw new IndexOutOfBoundsException("no such bar");
        }
        return drum.tempos[bar];
    }

    public int weightOf(int bell) throws IndexOutOfBoundsException {
        if (!isBell(bell)) {
            throw new IndexOutOfBoundsException("no such bell");
        }
        return drum.weights[bell];
    }

    public int column() {
        return drum.atHand;
    }

    public int time() {
        return drum.ticks;
    }

    public int heardOf(int bell) throws IndexOutOfBoundsException {
        if (!isBell(bell)) {
            throw new IndexOutOfBoundsException("no such bell");
        }
        return drum.timesHeard[bell];
    }

    public int heard(boolean byBells) {
        return byBells ? drum.sumOfTimesHeard() : drum.heardSoFar;
    }

    public int missed() {
        return drum.missedSoFar;
    }

    public int whyMissed(int bell) throws IndexOutOfBoundsException {
        if (!isBell(bell)) {
            throw new IndexOutOfBoundsException("no such bell");
        }
        if (!holds(drum.pegs[drum.atHand], bell)) {
            return NO_PEG;
        }
        if (!drum.hammers.isBack(bell, drum.weights[bell])) {
            return HAMMER_NOT_BACK;
        }
        return holds(drum.heardAtHand(), bell) ? WOULD_BE_HEARD : TOO_MUCH;
    }

    // ---- a round; nothing changes

    public int inRound(int column) throws IndexOutOfBoundsException {
        if (!isColumn(column)) {
            throw new IndexOutOfBoundsException("no such column");
        }
        round.play(drum, drum.bound);
        return round.heardIn[column];
    }

    public int heardInRound(boolean byColumns) {
        int heard = round.play(drum, drum.bound);
        return byColumns ? round.sumOfColumns() : heard;
    }

    public int ticksOfRound(boolean byBars) {
        return byBars ? drum.ticksByBars() : drum.ticksByColumns();
    }

    public int missedInRound() {
        return drum.countPegs() - round.play(drum, drum.bound);
    }

    public int busiest() {
        round.play(drum, drum.bound);
        int busiest = NONE;
        int most = 0;
        for (int bell = 0; bell < BELLS; bell++) {
            int times = round.timesHeard(bell);
            if (times > most) {
                most = times;
                busiest = bell;
            }
        }
        return busiest;
    }

    public int longestSilence() {
        round.play(drum, drum.bound);
        int longest = 0;
        int silent = 0;
        for (int column = 0; column < COLUMNS; column++) {
            silent = round.heardIn[column] == 0 ? silent + 1 : 0;
            longest = Math.max(longest, silent);
        }
        return longest;
    }

    public int enoughBound() {
        // With a bound that is enough the round goes as with none, so the heaviest column of that one tells the least.
        round.play(drum, NO_BOUND);
        int enough = 1;
        for (int column = 0; column < COLUMNS; column++) {
            enough = Math.max(enough, drum.weightOfAll(round.heardIn[column]));
        }
        return enough <= MOST_BOUND ? enough : NONE;
    }

    public int heaviestColumn() {
        round.play(drum, drum.bound);
        int heaviest = NONE;
        int most = 0;
        for (int column = 0; column < COLUMNS; column++) {
            int weight = drum.weightOfAll(round.heardIn[column]);
            if (weight > most) {
                most = weight;
                heaviest = column;
            }
        }
        return heaviest;
    }

    // ---- texts

    public int put(long characters) throws IllegalArgumentException, IllegalStateException {
        int count = Pad.charactersIn(characters);
        if (count == 0) {
            throw new IllegalArgumentException("no characters for the pad");
        }
        if (!pad.hasRoomFor(count)) {
            throw new IllegalStateException("the pad would be too long");
        }
        pad.append(characters, count);
        return pad.length;
    }

    public int wipe() {
        int before = pad.length;
        pad.clear();
        return before;
    }

    public int padLength() {
        return pad.length;
    }

    public int fault() {
        return pad.firstFault();
    }

    // ---- undo, saving

    public int undo() throws IllegalStateException {
        drum.copyFrom(history.takeLatest());
        return history.count;
    }

    public int undoable() {
        return history.count;
    }

    public int save(int slot) throws IndexOutOfBoundsException {
        if (!isSlot(slot)) {
            throw new IndexOutOfBoundsException("no such slot");
        }
        Drum saved = slots[slot];
        if (saved == null) {
            saved = new Drum();
            slots[slot] = saved;
        }
        saved.copyFrom(drum);
        return drum.countPegs();
    }

    public int restore(int slot) throws IndexOutOfBoundsException, IllegalStateException {
        if (!isSlot(slot)) {
            throw new IndexOutOfBoundsException("no such slot");
        }
        Drum saved = slots[slot];
        if (saved == null) {
            throw new IllegalStateException("nothing was saved in this slot");
        }
        history.add(drum);
        drum.copyFrom(saved);
        return drum.countPegs();
    }

    // ---- doing what the pad tells

    private int doPart(int start, int end) {
        char first = pad.at(start);
        if (first == '.') {
            boolean once = start + 1 == end;
            return drum.strikeColumns(once ? 1 : pad.digitAt(start + 1));
        }
        if (first == 't') {
            changeTempo(pad.digitAt(start + 1), pad.digitAt(start + 2));
        } else {
            turnPegs(start, end);
        }
        return 0;
    }

    private void changeTempo(int bar, int tempo) {
        if (isBar(bar)) {
            drum.tempos[bar] = tempo;
        }
    }

    private void turnPegs(int start, int end) {
        int colon = pad.colonFrom(start);
        int column = pad.numberIn(start, colon);
        if (isColumn(column)) {
            for (int index = colon + 1; index < end; index++) {
                drum.pegs[column] ^= 1 << pad.digitAt(index);
            }
        }
    }

    // ---- what exists

    private static boolean isColumn(int column) {
        return column >= 0 && column < COLUMNS;
    }

    private static boolean isBar(int bar) {
        return bar >= 0 && bar < BARS;
    }

    private static boolean isBell(int bell) {
        return bell >= 0 && bell < BELLS;
    }

    private static boolean isSlot(int slot) {
        return slot >= 0 && slot < SLOTS;
    }

    private static boolean holds(int bells, int bell) {
        return (bells >> bell & 1) == 1;
    }

    /** The hammers of all bells: how long ago each was heard, and who is heard if a column is struck. */
    private static final class Hammers {
        /** The columns struck since a bell was heard; no more than LONGEST_REST are counted, as no bell needs more. */
        private final int[] rests = new int[BELLS];

        Hammers() {
            Arrays.fill(rests, LONGEST_REST);
        }

        void copyFrom(Hammers other) {
            System.arraycopy(other.rests, 0, rests, 0, BELLS);
        }

        void allBack() {
            Arrays.fill(rests, LONGEST_REST);
        }

        /** The column that would be struck now counts on both sides: as one more, and as the 1 beside the weight. */
        boolean isBack(int bell, int weight) {
            return rests[bell] >= weight / WEIGHT_OF_A_COLUMN;
        }

        int heardOutOf(int bells, int[] weights, int bound) {
            int heard = 0;
            int weightSoFar = 0;
            for (int bell = 0; bell < BELLS; bell++) {
                int weight = weights[bell];
                if (holds(bells, bell) && isBack(bell, weight) && weightSoFar + weight <= bound) {
                    heard |= 1 << bell;
                    weightSoFar += weight;
                }
            }
            return heard;
        }

        void swing(int heard) {
            for (int bell = 0; bell < BELLS; bell++) {
                rests[bell] = holds(heard, bell) ? 0 : Math.min(rests[bell] + 1, LONGEST_REST);
            }
        }
    }

    /** All that undo and the slots bring back. */
    private static final class Drum {
        final int[] pegs = new int[COLUMNS];
        final int[] tempos = new int[BARS];
        final int[] weights = new int[BELLS];
        final int[] timesHeard = new int[BELLS];
        final Hammers hammers = new Hammers();
        int bound = FIRST_BOUND;
        int atHand = 0;
        int ticks = 0;
        int heardSoFar = 0;
        int missedSoFar = 0;

        Drum() {
            Arrays.fill(tempos, FIRST_TEMPO);
            for (int bell = 0; bell < BELLS; bell++) {
                weights[bell] = MOST_WEIGHT - WEIGHT_STEP * bell;
            }
        }

        void copyFrom(Drum other) {
            System.arraycopy(other.pegs, 0, pegs, 0, COLUMNS);
            System.arraycopy(other.tempos, 0, tempos, 0, BARS);
            System.arraycopy(other.weights, 0, weights, 0, BELLS);
            System.arraycopy(other.timesHeard, 0, timesHeard, 0, BELLS);
            hammers.copyFrom(other.hammers);
            bound = other.bound;
            atHand = other.atHand;
            ticks = other.ticks;
            heardSoFar = other.heardSoFar;
            missedSoFar = other.missedSoFar;
        }

        int strikeColumns(int columns) {
            int before = heardSoFar;
            for (int times = 0; times < columns; times++) {
                strikeAtHand();
            }
            return heardSoFar - before;
        }

        private void strikeAtHand() {
            int heard = heardAtHand();
            hammers.swing(heard);
            countHeard(heard);
            missedSoFar += Integer.bitCount(pegs[atHand] & ~heard);
            ticks += tempos[atHand / COLUMNS_OF_BAR];
            atHand = (atHand + 1) % COLUMNS;
        }

        int heardAtHand() {
            return hammers.heardOutOf(pegs[atHand], weights, bound);
        }

        private void countHeard(int heard) {
            heardSoFar += Integer.bitCount(heard);
            for (int bell = 0; bell < BELLS; bell++) {
                if (holds(heard, bell)) {
                    timesHeard[bell]++;
                }
            }
        }

        int countPegs() {
            int count = 0;
            for (int column = 0; column < COLUMNS; column++) {
                count += Integer.bitCount(pegs[column]);
            }
            return count;
        }

        int pegsOtherThan(Drum before) {
            int others = 0;
            for (int column = 0; column < COLUMNS; column++) {
                others += Integer.bitCount(pegs[column] ^ before.pegs[column]);
            }
            return others;
        }

        int sumOfTimesHeard() {
            int sum = 0;
            for (int bell = 0; bell < BELLS; bell++) {
                sum += timesHeard[bell];
            }
            return sum;
        }

        int ticksByColumns() {
            int sum = 0;
            for (int column = 0; column < COLUMNS; column++) {
                sum += tempos[column / COLUMNS_OF_BAR];
            }
            return sum;
        }

        int ticksByBars() {
            int sum = 0;
            for (int bar = 0; bar < BARS; bar++) {
                sum += COLUMNS_OF_BAR * tempos[bar];
            }
            return sum;
        }

        int weightOfAll(int bells) {
            int sum = 0;
            for (int bell = 0; bell < BELLS; bell++) {
                if (holds(bells, bell)) {
                    sum += weights[bell];
                }
            }
            return sum;
        }
    }

    /** What would be heard in a round; played anew for each question, in rows that are made once. */
    private static final class Round {
        final int[] heardIn = new int[COLUMNS];
        private final Hammers hammers = new Hammers();

        int play(Drum drum, int bound) {
            hammers.allBack();
            int count = 0;
            for (int column = 0; column < COLUMNS; column++) {
                int heard = hammers.heardOutOf(drum.pegs[column], drum.weights, bound);
                hammers.swing(heard);
                heardIn[column] = heard;
                count += Integer.bitCount(heard);
            }
            return count;
        }

        int sumOfColumns() {
            int sum = 0;
            for (int column = 0; column < COLUMNS; column++) {
                sum += Integer.bitCount(heardIn[column]);
            }
            return sum;
        }

        int timesHeard(int bell) {
            int times = 0;
            for (int column = 0; column < COLUMNS; column++) {
                if (holds(heardIn[column], bell)) {
                    times++;
                }
            }
            return times;
        }
    }

    /** The states that can be undone, the oldest first; the drums behind them wait to be used again. */
    private static final class History {
        private final Drum[] states = new Drum[HISTORY];
        int count = 0;

        History() {
            for (int index = 0; index < HISTORY; index++) {
                states[index] = new Drum();
            }
        }

        /** Hands out the copy that it keeps, as a change asks it for what was before. */
        Drum add(Drum drum) {
            if (count == HISTORY) {
                dropOldest();
            }
            Drum state = states[count];
            state.copyFrom(drum);
            count++;
            return state;
        }

        private void dropOldest() {
            Drum oldest = states[0];
            for (int index = 1; index < HISTORY; index++) {
                states[index - 1] = states[index];
            }
            states[HISTORY - 1] = oldest;
            count--;
        }

        Drum takeLatest() {
            if (count == 0) {
                throw new IllegalStateException("nothing can be undone");
            }
            count--;
            return states[count];
        }
    }

    /** The text of a roll, as far as it has been put. */
    private static final class Pad {
        private static final int MOST_LENGTH = 60;
        private static final int MOST_PUT = 8;
        private static final int CODE_BITS = 8;
        private static final int CODE_MASK = 255;
        private static final int FIRST_CODE = 33;
        private static final int LAST_CODE = 126;

        // What may stand at the next place.
        private static final int NOTHING = 0;
        private static final int PART = 1;
        private static final int DIGIT_OR_COLON = 2;
        private static final int ZERO_ONE_OR_COLON = 3;
        private static final int COLON = 4;
        private static final int FIRST_BELL = 5;
        private static final int BELL_OR_END = 6;
        private static final int BAR = 7;
        private static final int TEMPO = 8;
        private static final int TIMES_OR_END = 9;
        private static final int END = 10;

        private final char[] characters = new char[MOST_LENGTH];
        int length = 0;

        /** 0 if something is no character, too: put refuses that number as it refuses one without characters. */
        static int charactersIn(long number) {
            for (int count = 0; count < MOST_PUT; count++) {
                long rest = number >>> count * CODE_BITS;
                if (rest == 0) {
                    return count;
                }
                long code = rest & CODE_MASK;
                if (code < FIRST_CODE || code > LAST_CODE) {
                    return 0;
                }
            }
            return MOST_PUT;
        }

        void clear() {
            length = 0;
        }

        boolean hasRoomFor(int count) {
            return length + count <= MOST_LENGTH;
        }

        void append(long number, int count) {
            for (int behind = count - 1; behind >= 0 && length < MOST_LENGTH; behind--) {
                characters[length] = (char) (number >>> behind * CODE_BITS & CODE_MASK);
                length++;
            }
        }

        int firstFault() {
            int place = PART;
            for (int index = 0; index < length; index++) {
                place = placeAfter(place, characters[index]);
                if (place == NOTHING) {
                    return index;
                }
            }
            boolean canEnd = place == BELL_OR_END || place == TIMES_OR_END || place == END;
            return canEnd ? NONE : length;
        }

        private static int placeAfter(int place, char character) {
            switch (place) {
                case PART:
                    return placeAfterFirst(character);
                case DIGIT_OR_COLON:
                    return isIn(character, '0', '9') ? COLON : placeAfterColumn(character);
                case ZERO_ONE_OR_COLON:
                    return isIn(character, '0', '1') ? COLON : placeAfterColumn(character);
                case COLON:
                    return placeAfterColumn(character);
                case FIRST_BELL:
                    return isIn(character, '0', '9') ? BELL_OR_END : NOTHING;
                case BELL_OR_END:
                    return isIn(character, '0', '9') ? BELL_OR_END : placeAfterPart(character);
                case BAR:
                    return isIn(character, '0', '3') ? TEMPO : NOTHING;
                case TEMPO:
                    return isIn(character, '1', '9') ? END : NOTHING;
                case TIMES_OR_END:
                    return isIn(character, '2', '9') ? END : placeAfterPart(character);
                case END:
                    return placeAfterPart(character);
                default:
                    return NOTHING;
            }
        }

        private static int placeAfterFirst(char character) {
            if (character == 't') {
                return BAR;
            }
            if (character == '.') {
                return TIMES_OR_END;
            }
            if (character == '3') {
                return ZERO_ONE_OR_COLON;
            }
            if (isIn(character, '1', '2')) {
                return DIGIT_OR_COLON;
            }
            return isIn(character, '0', '9') ? COLON : NOTHING;
        }

        private static int placeAfterColumn(char character) {
            return character == ':' ? FIRST_BELL : NOTHING;
        }

        private static int placeAfterPart(char character) {
            return character == ';' ? PART : NOTHING;
        }

        private static boolean isIn(char character, char first, char last) {
            return character >= first && character <= last;
        }

        int colonFrom(int start) {
            for (int index = start; index < length; index++) {
                if (at(index) == ':') {
                    return index;
                }
            }
            return length;
        }

        char at(int index) {
            return index >= 0 && index < length ? characters[index] : 0;
        }

        int digitAt(int index) {
            return at(index) - '0';
        }

        int numberIn(int start, int end) {
            int number = 0;
            for (int index = start; index < end; index++) {
                number = 10 * number + digitAt(index);
            }
            return number;
        }
    }
}
