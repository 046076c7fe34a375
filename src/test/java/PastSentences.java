import java.util.LinkedHashMap;
import java.util.Map;
import java.util.function.Consumer;

/** The promises 35 to 38: undo and saving. */
final class PastSentences {
    private static final String NO_SLOT = "Throws `IndexOutOfBoundsException` if there is no such slot";
    private static final String SLOTS = "- `slot`: 0 or 1";

    private PastSentences() {
    }

    static void tell(Sentences s) {
        undo35(s);
        history35(s);
        undoable36(s);
        save37(s);
        restore38(s);
    }

    private static void undo35(Sentences s) {
        s.in("Promise 35");
        s.test("Undoes the latest change: everything except the pad, the slots and the history is as it was before it.",
                () -> {
            Rolls.changes().forEach(Rolls::isChange);
            PeggedBells x = new PeggedBells();
            x.setBound(99);
            x.turnPeg(0, 0);
            x.undo();
            Check.due("only the latest", 99, x.setBound(50));
            thePadStays();
            theSlotsStay();
        });
        s.test("Returns how many changes can be undone then.", () -> {
            PeggedBells x = Rolls.with(1, 1, 1, 1, 1, 1, 1, 1);
            for (int left = 5; left >= 0; left--) {
                Check.due("undo", left, x.undo());
            }
        });
        s.test("Throws `IllegalStateException` if there is none", () -> {
            PeggedBells x = new PeggedBells();
            Check.refused("at first", Rolls.STATE, x::undo);
            x.save(0);
            x.put('.');
            x.wipe();
            Check.refused("after calls that are no changes", Rolls.STATE, x::undo);
            Check.refused("after a change that was refused", Rolls.ARGUMENT, () -> x.move(0));
            Check.refused("then", Rolls.STATE, x::undo);
            x.raise();
            Check.due("after a change", 0, x.undo());
            Check.refused("when it is undone", Rolls.STATE, x::undo);
            for (int times = 0; times < 7; times++) {
                x.crank(1);
            }
            for (int left = 5; left >= 0; left--) {
                Check.due("after seven", left, x.undo());
            }
            Check.refused("the seventh", Rolls.STATE, x::undo);
            Check.due("what is left of them", 1, x.column());
        });
    }

    private static void thePadStays() {
        PeggedBells x = new PeggedBells();
        x.turnPeg(0, 0);
        Rolls.put(x, ".2");
        x.undo();
        Check.due("the pad stays", 2, x.padLength());
        x.read();
        Check.due("what is in it, too", 2, x.column());
        x.undo();
        Check.due("one that was read does not come back", 0, x.padLength());
    }

    private static void theSlotsStay() {
        PeggedBells x = new PeggedBells();
        x.turnPeg(0, 0);
        x.turnPeg(1, 1);
        x.save(0);
        x.undo();
        x.save(1);
        x.undo();
        Check.due("the slot 0 stays", 2, x.restore(0));
        x.undo();
        Check.due("the slot 0 stays after a restore is undone", 2, x.restore(0));
        Check.due("the slot 1 stays", 1, x.restore(1));
    }

    private static void history35(Sentences s) {
        s.test("A history of at most 6 states is kept:", () -> {
            PeggedBells x = new PeggedBells();
            for (int changes = 1; changes <= 6; changes++) {
                x.crank(changes);
                Check.due("kept", changes, x.undoable());
            }
            for (int left = 5; left >= 0; left--) {
                Check.due("undone", left, x.undo());
                Check.due("the column then", left * (left + 1) / 2, x.column());
            }
            for (int changes = 1; changes <= 20; changes++) {
                x.turnPeg(changes, 0);
                Check.due("kept of " + changes, Math.min(6, changes), x.undoable());
            }
        });
        s.test("each method that is a change, and throws no exception, records the state before it", () -> {
            Rolls.changes().forEach((name, change) -> {
                PeggedBells x = Rolls.used();
                int before = x.undoable();
                change.accept(x);
                Check.due(name, before + 1, x.undoable());
            });
            refusedAreNotRecorded();
        });
        s.test("(also if nothing is different then);", () -> {
            pegsThatStay();
            noPegs("turnRound", PeggedBells::turnRound);
            noPegs("move", x -> x.move(7));
            noPegs("raise", PeggedBells::raise);
        });
        s.test("when one more is recorded, the oldest one is dropped.", () -> {
            PeggedBells x = new PeggedBells();
            for (int changes = 1; changes <= 7; changes++) {
                x.setBound(100 + changes);
            }
            Check.due("six are kept of seven", 6, x.undoable());
            for (int times = 0; times < 6; times++) {
                x.undo();
            }
            Check.due("the state before the second one", 101, x.setBound(99));
            PeggedBells y = new PeggedBells();
            for (int changes = 1; changes <= 20; changes++) {
                y.crank(1);
            }
            for (int column = 19; column >= 14; column--) {
                y.undo();
                Check.due("the latest six of twenty", column, y.column());
            }
            afterUndo();
        });
    }

    private static void pegsThatStay() {
        withoutDifference().forEach((name, change) -> {
            PeggedBells x = new PeggedBells();
            x.setColumn(5, 3);
            x.save(0);
            String before = Rolls.all(x);
            Rolls.put(x, "6:1;6:1");
            change.accept(x);
            Check.due(name + ": nothing is different", before, Rolls.all(x));
            Check.due(name + ": recorded", 2, x.undoable());
            Check.due(name + ": undone", 1, x.undo());
            Check.due(name + ": the peg is still there", 2, x.pegs());
            x.undo();
            Check.due(name + ": and is taken out by the next undo", 0, x.pegs());
        });
    }

    /** A change of the pegs, when there are none. */
    private static void noPegs(String name, Consumer<PeggedBells> change) {
        PeggedBells x = new PeggedBells();
        x.setTempo(0, 9);
        change.accept(x);
        Check.due(name + " without pegs: recorded", 2, x.undoable());
        Check.due(name + " without pegs: undone", 1, x.undo());
        Check.due(name + " without pegs: the tempo", 9, x.tempoOf(0));
        x.undo();
        Check.due(name + " without pegs: the tempo at first", 4, x.tempoOf(0));
    }

    private static void refusedAreNotRecorded() {
        PeggedBells x = new PeggedBells();
        Check.refused("turnPeg", Rolls.INDEX, () -> Rolls.one(x.turnPeg(32, 0)));
        Check.refused("setColumn", Rolls.INDEX, () -> x.setColumn(32, 0));
        Check.refused("setColumn", Rolls.ARGUMENT, () -> x.setColumn(0, 1024));
        Check.refused("setTempo", Rolls.INDEX, () -> x.setTempo(4, 1));
        Check.refused("setTempo", Rolls.ARGUMENT, () -> x.setTempo(0, 0));
        Check.refused("setWeight", Rolls.INDEX, () -> x.setWeight(10, 1));
        Check.refused("setWeight", Rolls.ARGUMENT, () -> x.setWeight(0, 0));
        Check.refused("setBound", Rolls.ARGUMENT, () -> x.setBound(0));
        Check.refused("move", Rolls.ARGUMENT, () -> x.move(0));
        Check.refused("crank", Rolls.ARGUMENT, () -> x.crank(0));
        Check.refused("read", Rolls.ARGUMENT, x::read);
        Check.refused("restore", Rolls.INDEX, () -> x.restore(2));
        Check.refused("restore", Rolls.STATE, () -> x.restore(0));
        Check.due("recorded by what is refused", 0, x.undoable());
    }

    /** Changes after which a roll is as before, if it has two pegs in the column 5 and is saved in the slot 0. */
    private static Map<String, Consumer<PeggedBells>> withoutDifference() {
        Map<String, Consumer<PeggedBells>> changes = new LinkedHashMap<>();
        changes.put("setColumn", x -> x.setColumn(5, 3));
        changes.put("setColumn, none", x -> x.setColumn(0, 0));
        changes.put("setTempo", x -> x.setTempo(3, 4));
        changes.put("setWeight", x -> x.setWeight(9, 6));
        changes.put("setBound", x -> x.setBound(120));
        changes.put("turnBack", PeggedBells::turnBack);
        changes.put("read", PeggedBells::read);
        changes.put("restore", x -> x.restore(0));
        return changes;
    }

    /** The room of states that were undone is used again. */
    private static void afterUndo() {
        PeggedBells x = new PeggedBells();
        for (int changes = 1; changes <= 6; changes++) {
            x.crank(1);
        }
        x.undo();
        x.undo();
        x.crank(10);
        Check.due("behind an undo", 5, x.undoable());
        x.crank(10);
        x.crank(10);
        Check.due("full again", 6, x.undoable());
        int[] columns = {24, 14, 4, 3, 2, 1};
        for (int column : columns) {
            x.undo();
            Check.due("what is kept", column, x.column());
        }
        Check.refused("the first one was dropped", Rolls.STATE, x::undo);
    }

    private static void undoable36(Sentences s) {
        s.in("Promise 36");
        s.test("Returns how many changes can be undone.", () -> {
            PeggedBells x = new PeggedBells();
            Check.due("none", 0, x.undoable());
            for (int changes = 1; changes <= 8; changes++) {
                x.turnRound();
                Check.due("after " + changes, Math.min(6, changes), x.undoable());
            }
            for (int left = 5; left >= 0; left--) {
                x.undo();
                Check.due("left", left, x.undoable());
            }
            Check.refused("none is left", Rolls.STATE, x::undo);
            Check.due("none then", 0, x.undoable());
            x.put('.');
            x.save(0);
            Check.due("what is no change", 0, x.undoable());
            x.restore(0);
            x.read();
            Check.due("what is one", 2, x.undoable());
        });
    }

    private static void save37(Sentences s) {
        s.in("Promise 37");
        s.test("Saves everything except the pad, the history and the slots in a slot,", () -> {
            for (int slot = 0; slot < 2; slot++) {
                PeggedBells x = Rolls.used();
                String now = Rolls.now(Rolls.used());
                x.save(slot);
                spoil(x);
                x.restore(slot);
                Check.due("all of it in " + slot, now, Rolls.now(x));
            }
            PeggedBells y = new PeggedBells();
            y.crank(1);
            Rolls.put(y, "t0");
            y.save(1);
            y.put('1');
            y.crank(1);
            y.restore(1);
            Check.due("not the pad", 3, y.padLength());
            Check.due("not the history", 3, y.undoable());
        });
        s.test("and overwrites what was saved there.", () -> {
            PeggedBells x = new PeggedBells();
            x.save(0);
            x.save(1);
            x.turnPeg(31, 9);
            Check.due("again in 0", 1, x.save(0));
            x.turnPeg(31, 9);
            Check.due("the slot 0", 1, x.restore(0));
            Check.due("the slot 1 is another one", 0, x.restore(1));
            Check.due("with less than it had", 0, x.save(0));
            x.turnPeg(0, 0);
            Check.due("the slot 0 then", 0, x.restore(0));
        });
        s.test(SLOTS, () -> {
            PeggedBells x = new PeggedBells();
            x.save(0);
            x.turnPeg(0, 0);
            x.save(1);
            Check.due("slot 0", 0, x.restore(0));
            Check.due("slot 1", 1, x.restore(1));
            Check.refused("slot -1", Rolls.INDEX, () -> x.save(-1));
            Check.refused("slot 2", Rolls.INDEX, () -> x.save(2));
        });
        s.test("Returns how many pegs there are.", () -> {
            PeggedBells x = new PeggedBells();
            Check.due("none", 0, x.save(0));
            x.setColumn(0, 1023);
            x.turnPeg(31, 9);
            Check.due("eleven", 11, x.save(0));
            Check.due("in the other slot", 11, x.save(1));
            for (int column = 0; column < 32; column++) {
                x.setColumn(column, 1023);
            }
            Check.due("all", 320, x.save(1));
        });
        s.test(NO_SLOT, () -> {
            PeggedBells x = new PeggedBells();
            for (int none : Rolls.NO_SLOTS) {
                Check.refused("slot " + none, Rolls.INDEX, () -> x.save(none));
            }
        });
    }

    /** Five changes, after which nothing is as it was on a used roll. */
    private static void spoil(PeggedBells x) {
        x.turnBack();
        x.setBound(30);
        x.wipe();
        Rolls.read(x, "0:9;31:9;t01;t12;t23;t34;.9;.9;.9");
        x.setWeight(0, 1);
        Rolls.put(x, "7:1;.4");
    }

    private static void restore38(Sentences s) {
        s.in("Promise 38");
        s.test("Restores what was saved last in a slot,", () -> {
            PeggedBells x = new PeggedBells();
            x.turnPeg(0, 0);
            x.save(0);
            x.turnPeg(1, 1);
            x.crank(2);
            x.save(0);
            x.turnPeg(2, 2);
            x.setBound(7);
            Check.due("the last", 2, x.restore(0));
            Check.due("its column", 2, x.column());
            Check.due("its time", 8, x.time());
            Check.due("its counts", 2, x.heard(true));
            Check.due("its bound", 120, x.setBound(7));
            x.setColumn(2, 1);
            Check.due("its hammers", 1, x.whyMissed(0));
        });
        s.test("which keeps it.", () -> {
            PeggedBells x = Rolls.used();
            x.restore(0);
            String kept = Rolls.all(x);
            spoil(x);
            x.restore(0);
            Check.due("restored twice", kept, Rolls.all(x));
            x.setWeight(0, 1);
            x.restore(1);
            x.undo();
            x.undo();
            x.restore(0);
            Check.due("restored after undo", kept, Rolls.all(x));
        });
        s.test("This is a change.", () -> {
            Rolls.isChange("restore(0)", x -> x.restore(0));
            Rolls.isChange("restore(1)", x -> x.restore(1));
        });
        s.test(SLOTS, () -> {
            PeggedBells x = Rolls.used();
            Check.due("slot 0", true, x.restore(0) > 0);
            Check.due("its weight", 6, x.weightOf(9));
            Check.due("slot 1", true, x.restore(1) > 0);
            Check.due("its weight", 25, x.weightOf(9));
            Check.refused("slot -1", Rolls.INDEX, () -> x.restore(-1));
            Check.refused("slot 2", Rolls.INDEX, () -> x.restore(2));
        });
        s.test("Returns how many pegs there are then.", () -> {
            PeggedBells x = new PeggedBells();
            x.save(0);
            x.setColumn(0, 1023);
            x.setColumn(31, 1023);
            x.save(1);
            Check.due("none", 0, x.restore(0));
            Check.due("twenty", 20, x.restore(1));
            x.raise();
            Check.due("twenty again", 20, x.restore(1));
        });
        s.test(NO_SLOT, () -> {
            PeggedBells x = Rolls.used();
            for (int none : Rolls.NO_SLOTS) {
                Check.refused("slot " + none, Rolls.INDEX, () -> x.restore(none));
            }
        });
        s.test("Throws `IllegalStateException` if nothing was saved in it", () -> {
            PeggedBells x = new PeggedBells();
            Check.refused("slot 0", Rolls.STATE, () -> x.restore(0));
            Check.refused("slot 1", Rolls.STATE, () -> x.restore(1));
            x.save(1);
            Check.refused("slot 0, when something is in the other one", Rolls.STATE, () -> x.restore(0));
            Check.due("slot 1 then", 0, x.restore(1));
            PeggedBells y = new PeggedBells();
            y.save(0);
            Check.refused("slot 1, when something is in the other one", Rolls.STATE, () -> y.restore(1));
            Check.due("slot 0 then", 0, y.restore(0));
        });
    }
}
