/** For each promise of the document, by its number: ordinary calls, the edges, and what is refused. */
public final class PromisesTest {
    private PromisesTest() {
    }

    // ---- what the tests are written with

    /** A drum on which nothing is as it was at first. */
    private static PeggedBells used() {
        PeggedBells x = new PeggedBells();
        Rolls.read(x, "0:019;1:29;2:0;3:01234;4:56789;9:3;31:0;t15;t39");
        x.setWeight(9, 25);
        x.setBound(170);
        x.crank(35);
        return x;
    }

    private static void refusedAndNothingChanged(
            PeggedBells x, String call, Class<? extends RuntimeException> want, Check.Call does) {
        String before = Rolls.all(x) + x.undoable() + " " + x.padLength();
        Check.refused(call, want, does);
        Check.due(call + ", what is after it", before, Rolls.all(x) + x.undoable() + " " + x.padLength());
    }

    /** A change records the state before it, and undo brings that back. */
    private static void isChange(String call, PeggedBells x, Check.Call does) {
        String before = Rolls.all(x);
        int undoable = x.undoable();
        does.answer();
        Check.due(call + ", undoable", Math.min(6, undoable + 1), x.undoable());
        x.undo();
        Check.due(call + ", all after undo", before, Rolls.all(x));
    }

    /** What asks changes nothing and records nothing. */
    private static void isNoChange(String call, PeggedBells x, Check.Call does) {
        String before = Rolls.all(x) + x.undoable();
        does.answer();
        Check.due(call + ", what is after it", before, Rolls.all(x) + x.undoable());
    }

    // ---- changes

    private static void newObject1() {
        PeggedBells x = new PeggedBells();
        Check.due("1: pegs", 0, x.pegs());
        for (int column = 0; column < 32; column++) {
            Check.due("1: pegsIn", 0, x.pegsIn(column));
        }
        for (int bar = 0; bar < 4; bar++) {
            Check.due("1: tempoOf", 4, x.tempoOf(bar));
        }
        int[] weights = {60, 54, 48, 42, 36, 30, 24, 18, 12, 6};
        for (int bell = 0; bell < 10; bell++) {
            Check.due("1: weightOf", weights[bell], x.weightOf(bell));
            Check.due("1: heardOf", 0, x.heardOf(bell));
            Check.due("1: whyMissed", 3, x.whyMissed(bell));
        }
        Check.due("1: column", 0, x.column());
        Check.due("1: time", 0, x.time());
        Check.due("1: heard", 0, x.heard(false) + x.heard(true));
        Check.due("1: missed", 0, x.missed());
        Check.due("1: padLength", 0, x.padLength());
        Check.due("1: undoable", 0, x.undoable());
        Check.refused("1: restore(0)", Rolls.STATE, () -> x.restore(0));
        Check.refused("1: restore(1)", Rolls.STATE, () -> x.restore(1));
        Check.due("1: bound", 120, x.setBound(1));
        Check.due("1: NONE", -1, PeggedBells.NONE);
        PeggedBells y = new PeggedBells();
        x.turnPeg(0, 0);
        Check.due("1: another object's pegs", 0, y.pegs());
    }

    private static void turnPeg2() {
        PeggedBells x = new PeggedBells();
        Check.due("2: set", true, x.turnPeg(0, 0));
        Check.due("2: another one", true, x.turnPeg(0, 9));
        Check.due("2: the last column", true, x.turnPeg(31, 4));
        Check.due("2: pegs of 0", 513, x.pegsIn(0));
        Check.due("2: pegs of 31", 16, x.pegsIn(31));
        Check.due("2: taken out", false, x.turnPeg(0, 0));
        Check.due("2: pegs of 0 then", 512, x.pegsIn(0));
        Check.due("2: set again", true, x.turnPeg(0, 0));
        for (int none : Rolls.NO_COLUMNS) {
            Check.refused("2: no column", Rolls.INDEX, () -> Rolls.one(x.turnPeg(none, 0)));
        }
        for (int none : Rolls.NO_BELLS) {
            Check.refused("2: no bell", Rolls.INDEX, () -> Rolls.one(x.turnPeg(0, none)));
        }
        refusedAndNothingChanged(x, "2: turnPeg(32, 10)", Rolls.INDEX, () -> Rolls.one(x.turnPeg(32, 10)));
        PeggedBells y = used();
        refusedAndNothingChanged(y, "2: turnPeg(0, 10)", Rolls.INDEX, () -> Rolls.one(y.turnPeg(0, 10)));
        isChange("2: turnPeg(0, 0)", y, () -> Rolls.one(y.turnPeg(0, 0)));
    }

    private static void setColumn3() {
        PeggedBells x = new PeggedBells();
        Check.due("3: all bells", 10, x.setColumn(31, 1023));
        Check.due("3: the same", 0, x.setColumn(31, 1023));
        Check.due("3: others", 6, x.setColumn(31, 0b1100100100));
        Check.due("3: others there", 0b1100100100, x.pegsIn(31));
        Check.due("3: none", 4, x.setColumn(31, 0));
        Check.due("3: some for others", 4, x.setColumn(0, 0b1111) + x.setColumn(0, 0b1111));
        Check.due("3: other pegs", 8, x.setColumn(0, 0b11110000));
        for (int none : Rolls.NO_COLUMNS) {
            Check.refused("3: no column", Rolls.INDEX, () -> x.setColumn(none, 0));
            Check.refused("3: no column, no set", Rolls.INDEX, () -> x.setColumn(none, 1024));
        }
        for (int none : new int[] {Integer.MIN_VALUE, -1, 1024, Integer.MAX_VALUE}) {
            Check.refused("3: no set", Rolls.ARGUMENT, () -> x.setColumn(0, none));
        }
        PeggedBells y = used();
        refusedAndNothingChanged(y, "3: setColumn(0, 1024)", Rolls.ARGUMENT, () -> y.setColumn(0, 1024));
        isChange("3: setColumn(0, 5)", y, () -> y.setColumn(0, 5));
        isChange("3: the same", y, () -> y.setColumn(0, 515));
    }

    private static void setTempo4() {
        PeggedBells x = new PeggedBells();
        Check.due("4: at first", 4, x.setTempo(0, 9));
        Check.due("4: then", 9, x.setTempo(0, 1));
        Check.due("4: the last bar", 4, x.setTempo(3, 7));
        Check.due("4: there", 1, x.tempoOf(0));
        Check.due("4: another bar", 4, x.tempoOf(1));
        Check.due("4: the last one", 7, x.tempoOf(3));
        for (int none : Rolls.NO_BARS) {
            Check.refused("4: no bar", Rolls.INDEX, () -> x.setTempo(none, 4));
            Check.refused("4: no bar, no tempo", Rolls.INDEX, () -> x.setTempo(none, 0));
        }
        for (int none : new int[] {Integer.MIN_VALUE, -1, 0, 10, Integer.MAX_VALUE}) {
            Check.refused("4: no tempo", Rolls.ARGUMENT, () -> x.setTempo(3, none));
        }
        PeggedBells y = used();
        refusedAndNothingChanged(y, "4: setTempo(0, 10)", Rolls.ARGUMENT, () -> y.setTempo(0, 10));
        isChange("4: setTempo(0, 5)", y, () -> y.setTempo(0, 5));
        x.crank(1);
        x.setTempo(0, 6);
        Check.due("4: what lasted before lasts as long", 1, x.time());
    }

    private static void setWeight5() {
        PeggedBells x = new PeggedBells();
        Check.due("5: at first", 60, x.setWeight(0, 1));
        Check.due("5: then", 1, x.setWeight(0, 60));
        Check.due("5: the last bell", 6, x.setWeight(9, 33));
        Check.due("5: there", 33, x.weightOf(9));
        Check.due("5: another bell", 12, x.weightOf(8));
        for (int none : Rolls.NO_BELLS) {
            Check.refused("5: no bell", Rolls.INDEX, () -> x.setWeight(none, 4));
            Check.refused("5: no bell, no weight", Rolls.INDEX, () -> x.setWeight(none, 0));
        }
        for (int none : new int[] {Integer.MIN_VALUE, -1, 0, 61, Integer.MAX_VALUE}) {
            Check.refused("5: no weight", Rolls.ARGUMENT, () -> x.setWeight(9, none));
        }
        PeggedBells y = used();
        refusedAndNothingChanged(y, "5: setWeight(0, 61)", Rolls.ARGUMENT, () -> y.setWeight(0, 61));
        isChange("5: setWeight(0, 5)", y, () -> y.setWeight(0, 5));
    }

    private static void setBound6() {
        PeggedBells x = new PeggedBells();
        Check.due("6: at first", 120, x.setBound(300));
        Check.due("6: then", 300, x.setBound(1));
        Check.due("6: the least", 1, x.setBound(59));
        x.setColumn(0, 0b11);
        Check.due("6: more than the bound", 2, x.whyMissed(0));
        Check.due("6: not the other", 0, x.whyMissed(1));
        x.setBound(60);
        Check.due("6: as much as the bound", 0, x.whyMissed(0));
        Check.due("6: the other then", 2, x.whyMissed(1));
        for (int none : new int[] {Integer.MIN_VALUE, -1, 0, 301, Integer.MAX_VALUE}) {
            Check.refused("6: no bound", Rolls.ARGUMENT, () -> x.setBound(none));
        }
        refusedAndNothingChanged(x, "6: setBound(301)", Rolls.ARGUMENT, () -> x.setBound(301));
        Check.due("6: after that", 60, x.setBound(114));
        Check.due("6: both as much as the bound", 0, x.whyMissed(1));
        isChange("6: setBound(100)", x, () -> x.setBound(100));
        Check.due("6: after undo", 114, x.setBound(100));
    }

    private static void turnRound7() {
        PeggedBells x = new PeggedBells();
        Check.due("7: no pegs", 0, x.turnRound());
        x.setColumn(0, 1023);
        x.setColumn(1, 1);
        x.setColumn(30, 3);
        x.setColumn(16, 4);
        Check.due("7: others", 24, x.turnRound());
        Check.due("7: column 31", 1023, x.pegsIn(31));
        Check.due("7: column 0", 0, x.pegsIn(0));
        Check.due("7: column 30", 1, x.pegsIn(30));
        Check.due("7: column 1", 3, x.pegsIn(1));
        Check.due("7: column 15", 4, x.pegsIn(15));
        Check.due("7: column 16", 0, x.pegsIn(16));
        PeggedBells y = used();
        isChange("7: turnRound()", y, y::turnRound);
        y.setTempo(0, 9);
        int column = y.column();
        y.turnRound();
        Check.due("7: the tempo stays", 9, y.tempoOf(0));
        Check.due("7: the column at hand stays", column, y.column());
    }

    private static void move8() {
        PeggedBells x = new PeggedBells();
        x.setColumn(0, 0b11);
        x.setColumn(1, 0b1);
        x.setColumn(31, 0b111);
        Check.due("8: by 1", 6, x.move(1));
        Check.due("8: 31 to 0", 0b111, x.pegsIn(0));
        Check.due("8: 0 to 1", 0b11, x.pegsIn(1));
        Check.due("8: 1 to 2", 0b1, x.pegsIn(2));
        Check.due("8: 31 then", 0, x.pegsIn(31));
        Check.due("8: by 31", 6, x.move(31));
        Check.due("8: 0 to 31", 0b111, x.pegsIn(31));
        Check.due("8: 1 to 0", 0b11, x.pegsIn(0));
        Check.due("8: by 16", 12, x.move(16));
        Check.due("8: 0 to 16", 0b11, x.pegsIn(16));
        Check.due("8: 31 to 15", 0b111, x.pegsIn(15));
        for (int none : new int[] {Integer.MIN_VALUE, -1, 0, 32, Integer.MAX_VALUE}) {
            Check.refused("8: no columns", Rolls.ARGUMENT, () -> x.move(none));
        }
        PeggedBells y = used();
        refusedAndNothingChanged(y, "8: move(32)", Rolls.ARGUMENT, () -> y.move(32));
        isChange("8: move(5)", y, () -> y.move(5));
        int column = y.column();
        y.move(5);
        Check.due("8: the column at hand stays", column, y.column());
    }

    private static void raise9() {
        PeggedBells x = new PeggedBells();
        Check.due("9: no pegs", 0, x.raise());
        x.setColumn(0, 1023);
        x.setColumn(5, 0b1000000001);
        x.setColumn(31, 0b0100000001);
        Check.due("9: two taken out", 2, x.raise());
        Check.due("9: column 0", 1022, x.pegsIn(0));
        Check.due("9: column 5", 0b10, x.pegsIn(5));
        Check.due("9: column 31", 0b1000000010, x.pegsIn(31));
        Check.due("9: two again", 2, x.raise());
        Check.due("9: pegs then", 8 + 1 + 1, x.pegs());
        PeggedBells y = used();
        isChange("9: raise()", y, y::raise);
    }

    private static void crank10() {
        PeggedBells x = new PeggedBells();
        x.setColumn(0, 0b11);
        x.setColumn(2, 0b1);
        x.setColumn(4, 0b1);
        Check.due("10: three columns", 2, x.crank(3));
        Check.due("10: column", 3, x.column());
        Check.due("10: missed", 1, x.missed());
        Check.due("10: two more", 1, x.crank(2));
        Check.due("10: to the end", 0, x.crank(27));
        Check.due("10: behind 31 comes 0", 0, x.column());
        Check.due("10: a whole round", 3, x.crank(32));
        Check.due("10: 200", 18 + 3, x.crank(200));
        Check.due("10: column after them", 8, x.column());
        Check.due("10: heard", 27, x.heard(false));
        for (int none : new int[] {Integer.MIN_VALUE, -1, 0, 201, Integer.MAX_VALUE}) {
            Check.refused("10: no columns", Rolls.ARGUMENT, () -> x.crank(none));
        }
        PeggedBells y = used();
        refusedAndNothingChanged(y, "10: crank(201)", Rolls.ARGUMENT, () -> y.crank(201));
        isChange("10: crank(9)", y, () -> y.crank(9));
    }

    /** How many columns a hammer of some weight needs, the struck one counted. */
    private static void hammers10() {
        int[] weights = {1, 19, 20, 39, 40, 59, 60};
        int[] needs = {1, 1, 2, 2, 3, 3, 4};
        for (int i = 0; i < weights.length; i++) {
            for (int gap = 1; gap <= 5; gap++) {
                PeggedBells x = new PeggedBells();
                x.setWeight(4, weights[i]);
                x.turnPeg(0, 4);
                x.turnPeg(gap, 4);
                String what = "10: weight " + weights[i] + ", " + gap + " columns on, ";
                Check.due(what + "the first", 1, x.crank(1));
                if (gap > 1) {
                    x.crank(gap - 1);
                }
                Check.due(what + "why", gap >= needs[i] ? 0 : 1, x.whyMissed(4));
                Check.due(what + "heard", gap >= needs[i] ? 1 : 0, x.crank(1));
                Check.due(what + "missed", gap >= needs[i] ? 0 : 1, x.missed());
            }
        }
        PeggedBells x = new PeggedBells();
        for (int column = 0; column < 8; column++) {
            x.turnPeg(column, 0);
        }
        Check.due("10: one that is missed does not hold the hammer", 2, x.crank(8));
        Check.due("10: the others", 6, x.missed());
        PeggedBells y = new PeggedBells();
        y.turnPeg(0, 0);
        y.turnPeg(2, 0);
        y.crank(2);
        Check.due("10: the weight that is now counts", 1, y.whyMissed(0));
        y.setWeight(0, 39);
        Check.due("10: a lighter one", 0, y.whyMissed(0));
        y.setWeight(0, 40);
        Check.due("10: a heavier one", 1, y.whyMissed(0));
    }

    private static void turnBack11() {
        PeggedBells x = new PeggedBells();
        x.setColumn(0, 0b11);
        x.setColumn(1, 0b1);
        x.crank(2);
        x.crank(31);
        Check.due("11: why before", 1, x.whyMissed(0));
        int heard = x.heard(false);
        int time = x.time();
        Check.due("11: column", 1, x.turnBack());
        Check.due("11: column then", 0, x.column());
        Check.due("11: hammers", 0, x.whyMissed(0));
        Check.due("11: the count stays", heard, x.heard(true));
        Check.due("11: the count of a bell stays", 2, x.heardOf(0));
        Check.due("11: missed stays", 1, x.missed());
        Check.due("11: the time stays", time, x.time());
        Check.due("11: the pegs stay", 3, x.pegs());
        Check.due("11: again", 0, x.turnBack());
        x.crank(1);
        x.turnBack();
        x.setWeight(0, 60);
        Check.due("11: back for any weight", 0, x.whyMissed(0));
        PeggedBells y = used();
        isChange("11: turnBack()", y, y::turnBack);
    }

    private static void read12() {
        PeggedBells x = new PeggedBells();
        Check.due("12: pegs and columns", 3, Rolls.read(x, "0:09;1:0;2:9;.3"));
        Check.due("12: pad", 0, x.padLength());
        Check.due("12: fault", 0, x.fault());
        Check.due("12: column", 3, x.column());
        Check.due("12: pegs", 4, x.pegs());
        Check.due("12: missed", 1, x.missed());
        Check.due("12: taken out, where one is", 0, Rolls.read(x, "0:01;31:9;10:3;30:7;29:6"));
        Check.due("12: column 0", 0b1000000010, x.pegsIn(0));
        Check.due("12: column 31", 512, x.pegsIn(31));
        Check.due("12: column 10", 8, x.pegsIn(10));
        Check.due("12: column 30", 128, x.pegsIn(30));
        Check.due("12: column 29", 64, x.pegsIn(29));
        Check.due("12: twice is as before", 0, Rolls.read(x, "5:0;5:0;6:121"));
        Check.due("12: column 5", 0, x.pegsIn(5));
        Check.due("12: column 6", 0b100, x.pegsIn(6));
        Check.due("12: tempos", 0, Rolls.read(x, "t09;t31;t12;t13"));
        Check.due("12: bar 0", 9, x.tempoOf(0));
        Check.due("12: bar 1", 3, x.tempoOf(1));
        Check.due("12: bar 2", 4, x.tempoOf(2));
        Check.due("12: bar 3", 1, x.tempoOf(3));
        int time = x.time();
        Check.due("12: in its order", 1 + 0 + 2, Rolls.read(x, "3:5;t01;.;t07;3:5;4:5;.;.9"));
        Check.due("12: time", time + 1 + 7 + 3 * 7 + 6 * 3, x.time());
        Check.due("12: column 3", 0, x.pegsIn(3));
        faultyRead12(x);
        PeggedBells y = used();
        Rolls.put(y, "0:0123456789;t11;.9;.");
        isChange("12: read()", y, y::read);
        Check.due("12: undo leaves the pad empty", 0, y.padLength());
        PeggedBells z = new PeggedBells();
        z.setColumn(0, 1);
        Rolls.read(z, ".9;1:1;t12;.2");
        Check.due("12: one change in all", 2, z.undoable());
        z.undo();
        Check.due("12: what one undo takes back", 0, z.time() + z.column() + z.tempoOf(1) - 4 + z.pegsIn(1));
    }

    private static void faultyRead12(PeggedBells x) {
        Check.refused("12: an empty pad", Rolls.ARGUMENT, x::read);
        Rolls.put(x, "0:1;t09;.9;");
        Check.due("12: a text that ends too early", 11, x.fault());
        refusedAndNothingChanged(x, "12: read()", Rolls.ARGUMENT, x::read);
        Rolls.put(x, ".0");
        refusedAndNothingChanged(x, "12: read() again", Rolls.ARGUMENT, x::read);
        Check.due("12: the pad stays", 13, x.wipe());
    }

    // ---- what there is

    private static void whatThereIs13to16() {
        PeggedBells x = new PeggedBells();
        x.setColumn(0, 5);
        x.setColumn(31, 1023);
        Check.due("13: column 0", 5, x.pegsIn(0));
        Check.due("13: column 1", 0, x.pegsIn(1));
        Check.due("13: column 31", 1023, x.pegsIn(31));
        for (int none : Rolls.NO_COLUMNS) {
            Check.refused("13: no column", Rolls.INDEX, () -> x.pegsIn(none));
        }
        Check.due("14: pegs", 12, x.pegs());
        x.crank(200);
        Check.due("14: pegs stay when they strike", 12, x.pegs());
        x.setTempo(0, 1);
        x.setTempo(3, 9);
        Check.due("15: bar 0", 1, x.tempoOf(0));
        Check.due("15: bar 1", 4, x.tempoOf(1));
        Check.due("15: bar 3", 9, x.tempoOf(3));
        for (int none : Rolls.NO_BARS) {
            Check.refused("15: no bar", Rolls.INDEX, () -> x.tempoOf(none));
        }
        x.setWeight(0, 1);
        x.setWeight(9, 60);
        Check.due("16: bell 0", 1, x.weightOf(0));
        Check.due("16: bell 1", 54, x.weightOf(1));
        Check.due("16: bell 9", 60, x.weightOf(9));
        for (int none : Rolls.NO_BELLS) {
            Check.refused("16: no bell", Rolls.INDEX, () -> x.weightOf(none));
        }
        for (int column = 0; column < 32; column++) {
            x.setColumn(column, 1023);
        }
        Check.due("14: all pegs", 320, x.pegs());
        PeggedBells y = used();
        isNoChange("13: pegsIn(0)", y, () -> y.pegsIn(0));
        isNoChange("14: pegs()", y, y::pegs);
    }

    private static void soFar17to21() {
        PeggedBells x = new PeggedBells();
        x.setColumn(0, 1023);
        x.setTempo(0, 1);
        x.setTempo(1, 2);
        x.setTempo(3, 9);
        Check.due("17: at first", 0, x.column());
        x.crank(8);
        Check.due("17: the next bar", 8, x.column());
        Check.due("18: a bar", 8, x.time());
        x.crank(1);
        Check.due("18: a column more", 10, x.time());
        x.crank(22);
        Check.due("17: the last column", 31, x.column());
        Check.due("18: up to the last column", 8 + 16 + 32 + 63, x.time());
        x.crank(1);
        Check.due("17: round the drum", 0, x.column());
        Check.due("18: a round", 128, x.time());
        x.crank(1);
        Check.due("18: one more", 129, x.time());
        Check.due("19: bell 0", 2, x.heardOf(0));
        Check.due("19: bell 2", 0, x.heardOf(2));
        Check.due("19: bell 9", 2, x.heardOf(9));
        for (int none : Rolls.NO_BELLS) {
            Check.refused("19: no bell", Rolls.INDEX, () -> x.heardOf(none));
        }
        Check.due("20: as it was", 6, x.heard(false));
        Check.due("20: by bells", 6, x.heard(true));
        Check.due("21: missed", 14, x.missed());
        x.setColumn(0, 0);
        x.raise();
        Check.due("19: what was heard stays", 2, x.heardOf(0));
        Check.due("20: what was heard stays, in all", 6, x.heard(false));
        Check.due("21: what was missed stays", 14, x.missed());
        PeggedBells y = used();
        isNoChange("17 to 21", y, () -> y.column() + y.time() + y.heardOf(0) + y.heard(true) + y.missed());
    }

    /** What all calls that an object is good for can add up to. */
    private static void most17to21() {
        PeggedBells x = new PeggedBells();
        for (int column = 0; column < 32; column++) {
            x.setColumn(column, 1023);
        }
        for (int bell = 0; bell < 10; bell++) {
            x.setWeight(bell, 1);
        }
        for (int bar = 0; bar < 4; bar++) {
            x.setTempo(bar, 9);
        }
        x.setBound(5);
        for (int calls = 0; calls < 400; calls++) {
            Check.due("10: a long crank", 1000, x.crank(200));
        }
        Check.due("17: column", 0, x.column());
        Check.due("18: time", 720000, x.time());
        Check.due("19: bell 4", 80000, x.heardOf(4));
        Check.due("19: bell 5", 0, x.heardOf(5));
        Check.due("20: as it was", 400000, x.heard(false));
        Check.due("20: by bells", 400000, x.heard(true));
        Check.due("21: missed", 400000, x.missed());
        Check.due("36: undoable", 6, x.undoable());
    }

    private static void whyMissed22() {
        PeggedBells x = new PeggedBells();
        x.setColumn(0, 0b1000000111);
        x.setColumn(1, 0b0000000011);
        int[] first = {0, 0, 2, 3, 3, 3, 3, 3, 3, 0};
        for (int bell = 0; bell < 10; bell++) {
            Check.due("22: bell " + bell, first[bell], x.whyMissed(bell));
        }
        Check.due("22: crank", 3, x.crank(1));
        Check.due("22: hammer", 1, x.whyMissed(0));
        Check.due("22: no peg", 3, x.whyMissed(2));
        x.setBound(1);
        Check.due("22: the hammer comes first", 1, x.whyMissed(1));
        x.setColumn(1, 0b0000000100);
        Check.due("22: the bound", 2, x.whyMissed(2));
        x.setBound(100);
        x.setColumn(1, 0b0000001101);
        Check.due("22: one that is missed for its hammer weighs nothing", 0, x.whyMissed(2));
        Check.due("22: and so on", 0, x.whyMissed(3));
        x.setBound(47);
        Check.due("22: one that is too heavy", 2, x.whyMissed(2));
        Check.due("22: weighs nothing", 0, x.whyMissed(3));
        for (int none : Rolls.NO_BELLS) {
            Check.refused("22: no bell", Rolls.INDEX, () -> x.whyMissed(none));
        }
        isNoChange("22: whyMissed(3)", x, () -> x.whyMissed(3));
    }

    // ---- a round

    private static void inRound23() {
        PeggedBells x = new PeggedBells();
        x.setColumn(0, 0b1000000111);
        x.setColumn(1, 0b0000000011);
        x.setColumn(4, 0b0000000011);
        x.setColumn(31, 0b0000000011);
        Check.due("23: column 0", 0b1000000011, x.inRound(0));
        Check.due("23: column 1", 0, x.inRound(1));
        Check.due("23: column 4", 0b11, x.inRound(4));
        Check.due("23: column 31", 0b11, x.inRound(31));
        x.crank(32);
        Check.due("23: the hammers are back at its beginning", 0b1000000011, x.inRound(0));
        x.crank(5);
        Check.due("23: wherever the drum stands", 0, x.inRound(1));
        for (int none : Rolls.NO_COLUMNS) {
            Check.refused("23: no column", Rolls.INDEX, () -> x.inRound(none));
        }
        Check.due("23: what is at hand", 5, x.column());
        Check.due("23: what was heard", x.heard(true), x.heard(false));
        isNoChange("23: inRound(0)", x, () -> x.inRound(0));
        PeggedBells y = used();
        isNoChange("23: inRound(1)", y, () -> y.inRound(1));
    }

    private static void round24to26() {
        PeggedBells x = new PeggedBells();
        Check.due("24: nothing", 0, x.heardInRound(false) + x.heardInRound(true));
        Check.due("26: nothing", 0, x.missedInRound());
        Check.due("25: at first", 128, x.ticksOfRound(false));
        x.setTempo(0, 1);
        x.setTempo(1, 2);
        x.setTempo(2, 9);
        x.setTempo(3, 8);
        Check.due("25: column by column", 160, x.ticksOfRound(false));
        Check.due("25: by bars", 160, x.ticksOfRound(true));
        x.setColumn(0, 0b1000000111);
        x.setColumn(1, 0b0000000011);
        x.setColumn(31, 0b0000000011);
        x.crank(33);
        Check.due("24: as it would come", 5, x.heardInRound(false));
        Check.due("24: by columns", 5, x.heardInRound(true));
        Check.due("26: for both reasons", 3, x.missedInRound());
        Check.due("25: the same after a crank", 160, x.ticksOfRound(false));
        PeggedBells y = used();
        isNoChange("24", y, () -> y.heardInRound(false) + y.heardInRound(true));
        isNoChange("25", y, () -> y.ticksOfRound(false) + y.ticksOfRound(true));
        isNoChange("26", y, y::missedInRound);
    }

    private static void busiest27() {
        PeggedBells x = new PeggedBells();
        Check.due("27: none", -1, x.busiest());
        x.turnPeg(31, 9);
        Check.due("27: one", 9, x.busiest());
        x.turnPeg(30, 4);
        Check.due("27: of several the lowest", 4, x.busiest());
        x.setColumn(0, 512);
        Check.due("27: the most", 9, x.busiest());
        for (int column = 1; column < 4; column++) {
            x.turnPeg(column, 0);
        }
        Check.due("27: only what is heard counts", 9, x.busiest());
        x.setBound(5);
        Check.due("27: none is heard", -1, x.busiest());
        x.setWeight(0, 5);
        Check.due("27: bell 0", 0, x.busiest());
        PeggedBells y = used();
        isNoChange("27", y, y::busiest);
    }

    private static void longestSilence28() {
        PeggedBells x = new PeggedBells();
        Check.due("28: all of it", 32, x.longestSilence());
        x.turnPeg(10, 9);
        Check.due("28: behind it", 21, x.longestSilence());
        x.turnPeg(25, 9);
        Check.due("28: between, not over the end", 14, x.longestSilence());
        x.turnPeg(18, 9);
        Check.due("28: at the beginning", 10, x.longestSilence());
        x.turnPeg(5, 9);
        Check.due("28: in the middle", 7, x.longestSilence());
        x.turnPeg(14, 9);
        x.turnPeg(21, 9);
        Check.due("28: at the end", 6, x.longestSilence());
        PeggedBells used = used();
        isNoChange("28", used, used::longestSilence);
        PeggedBells y = new PeggedBells();
        for (int column = 0; column < 32; column++) {
            y.turnPeg(column, 9);
        }
        Check.due("28: none", 0, y.longestSilence());
        y.turnPeg(16, 9);
        Check.due("28: one", 1, y.longestSilence());
        y.setColumn(17, 1);
        y.setColumn(18, 1);
        Check.due("28: a column in which all are missed is silent, too", 1, y.longestSilence());
        y.setColumn(19, 1);
        Check.due("28: two of them", 2, y.longestSilence());
    }

    private static void enoughBound29() {
        PeggedBells x = new PeggedBells();
        Check.due("29: no pegs", 1, x.enoughBound());
        x.turnPeg(3, 9);
        Check.due("29: one bell", 6, x.enoughBound());
        x.setBound(1);
        Check.due("29: the bound that is does not matter", 6, x.enoughBound());
        x.setWeight(9, 1);
        Check.due("29: the least", 1, x.enoughBound());
        x.setColumn(0, 0b11111);
        Check.due("29: five bells", 240, x.enoughBound());
        x.setColumn(0, 0b111111);
        Check.due("29: 270", 270, x.enoughBound());
        x.setWeight(5, 60);
        Check.due("29: 300", 300, x.enoughBound());
        x.setWeight(9, 1);
        x.setColumn(0, 0b1000111111);
        Check.due("29: 301", -1, x.enoughBound());
        x.setColumn(0, 0b1);
        x.setColumn(1, 0b11);
        Check.due("29: a hammer that is not back weighs nothing", 60, x.enoughBound());
        x.setColumn(4, 0b11);
        Check.due("29: one that is back does", 114, x.enoughBound());
        PeggedBells y = used();
        isNoChange("29", y, y::enoughBound);
    }

    private static void heaviestColumn30() {
        PeggedBells x = new PeggedBells();
        Check.due("30: none", -1, x.heaviestColumn());
        x.turnPeg(31, 9);
        Check.due("30: one", 31, x.heaviestColumn());
        x.turnPeg(20, 9);
        Check.due("30: of several the first", 20, x.heaviestColumn());
        x.turnPeg(25, 8);
        Check.due("30: the most", 25, x.heaviestColumn());
        x.setColumn(10, 0b1000);
        x.setColumn(11, 0b11000);
        Check.due("30: only what is heard weighs", 10, x.heaviestColumn());
        x.setColumn(15, 0b1010000000);
        x.setWeight(9, 25);
        Check.due("30: together", 15, x.heaviestColumn());
        x.setBound(5);
        Check.due("30: none is heard", -1, x.heaviestColumn());
        x.setWeight(9, 1);
        Check.due("30: the least weight", 15, x.heaviestColumn());
        x.turnPeg(0, 9);
        Check.due("30: column 0", 0, x.heaviestColumn());
        PeggedBells y = used();
        isNoChange("30", y, y::heaviestColumn);
    }

    // ---- texts

    private static void put31() {
        PeggedBells x = new PeggedBells();
        Check.due("31: one", 1, x.put('!'));
        Check.due("31: eight", 9, x.put(Rolls.number("~~~~~~~~")));
        Check.due("31: two", 11, x.put(Rolls.number("ab")));
        Check.due("31: wiped", 11, x.wipe());
        Check.due("31: in their order", 8, x.put(Rolls.number("12:34;.5")));
        Check.due("31: behind the others", 11, x.put(Rolls.number(";.2")));
        Check.due("31: no fault", -1, x.fault());
        x.read();
        Check.due("31: what was put", 24, x.pegsIn(12));
        Check.due("31: and the rest", 7, x.column());
        long[] wrong = {
            0, 32, 127, 128, 255, -1, Long.MIN_VALUE, Long.MAX_VALUE, 0x2E00, 0x2E002E, 0x2E0000000000002EL,
            0x2E20, 0x202E, 0x7F2E, 0x2E7F, 0x802E2E2E2E2E2E2EL, 0xFF2E2E2E2E2E2E2EL, 0x002E2E2E2E002E2EL, 1L << 32,
            0x012E2E2E2E2E2E2EL};
        for (long characters : wrong) {
            Check.refused("31: put(" + characters + ")", Rolls.ARGUMENT, () -> x.put(characters));
        }
        for (int code = 0; code < 256; code++) {
            long characters = code;
            if (code >= 33 && code <= 126) {
                Check.due("31: a code", 1, x.put(characters) * x.wipe());
            } else {
                Check.refused("31: no code", Rolls.ARGUMENT, () -> x.put(characters));
            }
        }
        Check.due("31: nothing is put", 0, x.padLength());
    }

    private static void fullPad31() {
        PeggedBells x = new PeggedBells();
        Rolls.put(x, ".;.;.;.;.;.;.;.;.;.;.;.;.;.;.;.;.;.;.;.;.;.;.;.;.;.;.;");
        Check.due("31: 54", 54, x.padLength());
        Check.refused("31: 62", Rolls.STATE, () -> x.put(Rolls.number(".;.;.;.;")));
        Check.refused("31: 61", Rolls.STATE, () -> x.put(Rolls.number(".;.;.;.")));
        Check.refused("31: too long, and no characters", Rolls.ARGUMENT, () -> x.put(Rolls.number(" ;.;.;.")));
        Check.due("31: 60", 60, x.put(Rolls.number(".;.;.2")));
        Check.refused("31: full", Rolls.STATE, () -> x.put('.'));
        Check.refused("31: full, and no character", Rolls.ARGUMENT, () -> x.put(0));
        Check.due("31: it stays", 60, x.padLength());
        Check.due("31: nothing recorded", 0, x.undoable());
        Check.due("31: no fault", -1, x.fault());
        x.read();
        Check.due("31: the last character counts", 31, x.column());
        Check.due("31: room again", 8, x.put(Rolls.number(".;.;.;.;")));
    }

    private static void wipe32padLength33() {
        PeggedBells x = used();
        Check.due("32: an empty pad", 0, x.wipe());
        Rolls.put(x, "0:1;.");
        Check.due("33: padLength", 5, x.padLength());
        Check.due("32: what it had", 5, x.wipe());
        Check.due("33: then", 0, x.padLength());
        Check.due("32: the fault then", 0, x.fault());
        Rolls.put(x, ".2");
        Check.due("33: only what is new", 2, x.padLength());
        isNoChange("33", x, x::padLength);
        isNoChange("34", x, x::fault);
        PeggedBells y = used();
        isNoChange("31", y, () -> y.put('x'));
        isNoChange("32", y, y::wipe);
    }

    private static void fault34() {
        String[] whole = {
            ".", ".2", ".9", "0:0", "9:9", "10:0", "19:0", "20:0", "29:0", "30:0", "31:0", "1:0", "2:0", "3:0", "4:0",
            "t01", "t39", ".;.", "5:0123456789", "5:9876543210", "5:55;t15;.9;.;31:9", "1:12;.2", "0:1;0:1"};
        for (String text : whole) {
            Check.due("34: " + text, -1, Rolls.faultOf(text));
        }
        String[] faulty = {
            "0", "1", "3", "31", "4", "t", "t0", "t3", "0:", "31:", ".;", ".9;", "t01;", "0:1;", "0:1;t", ".;2"};
        for (String text : faulty) {
            Check.due("34: " + text + " ends too early", text.length(), Rolls.faultOf(text));
        }
        Check.due("34: empty", 0, new PeggedBells().fault());
        // The last character is the one that cannot stand there.
        String[] ends = {
            "/", ":", ";", "T", "x", "!", "~", "32", "33", "39", "40", "90", "00", "01", "09", "310", "100", "190",
            "1/", "2/", "1;", "2t", "0;", "0.", "1t", "3/", "3;", "0::", "0:;", "0:/", "0:t", "0:0:", "0:0.", "0:0t",
            "0:0/", "t4", "t9", "t/", "t:", "tt", "t;", "t00", "t0/", "t0:", "t0;", "t010", "t01:", "t01.", "t01t",
            ".0", ".1", ".:", "..", ".t", ".20", ".2.", ".2t", ".2:", ".;;", "0:1;;", "0:1;x", "t01;;", ".2;T"};
        for (String text : ends) {
            Check.due("34: " + text, text.length() - 1, Rolls.faultOf(text));
            Check.due("34: " + text + ", more behind it", text.length() - 1, Rolls.faultOf(text + ";.x"));
        }
    }

    // ---- undo, saving

    private static void undo35undoable36() {
        PeggedBells x = new PeggedBells();
        Check.due("36: at first", 0, x.undoable());
        Check.refused("35: none", Rolls.STATE, x::undo);
        for (int bell = 0; bell < 9; bell++) {
            x.turnPeg(0, bell);
            Check.due("36: after a change", Math.min(6, bell + 1), x.undoable());
        }
        for (int left = 5; left >= 0; left--) {
            Check.due("35: undo", left, x.undo());
            Check.due("36: undoable", left, x.undoable());
            Check.due("35: pegs", 3 + left, x.pegs());
        }
        Check.refused("35: none is left", Rolls.STATE, x::undo);
        refusedAndNothingChanged(x, "35: undo()", Rolls.STATE, x::undo);
        x.turnPeg(0, 9);
        Check.due("36: again", 1, x.undoable());
        Check.due("35: again", 0, x.undo());
        x.setColumn(5, 0);
        x.raise();
        x.undo();
        x.crank(3);
        Check.due("35: a change behind an undo", 2, x.undoable());
        Check.due("35: takes it back", 1, x.undo());
        Check.due("35: the column", 0, x.column());
        Check.due("35: nothing is different then, but it was recorded", 0, x.undo());
        PeggedBells y = used();
        isNoChange("36", y, y::undoable);
    }

    private static void undoOfAll35() {
        PeggedBells x = used();
        String before = Rolls.all(x);
        int bound = 170;
        x.setBound(33);
        x.setWeight(3, 60);
        x.setTempo(2, 1);
        x.move(7);
        x.crank(123);
        x.turnBack();
        Rolls.put(x, ".9");
        x.save(1);
        for (int left = 5; left >= 0; left--) {
            Check.due("35: undo", left, x.undo());
        }
        Check.due("35: all is as before", before, Rolls.all(x));
        Check.due("35: the pad stays", 2, x.padLength());
        Check.due("35: the slot stays", x.pegs(), x.restore(1));
        Check.due("35: the slot's time", true, x.time() > 4 * 123);
        x.undo();
        Check.due("35: the bound is as before", bound, x.setBound(1));
        PeggedBells y = new PeggedBells();
        y.turnPeg(0, 0);
        y.turnPeg(1, 0);
        y.crank(1);
        y.turnBack();
        y.undo();
        Check.due("35: hammers are as before", 1, y.whyMissed(0));
        y.undo();
        Check.due("35: and as before that", 0, y.whyMissed(0));
        y.crank(1);
        y.undo();
        Check.due("35: counts are as before", 0, y.heard(false) + y.heard(true) + y.heardOf(0) + y.time());
    }

    private static void save37restore38() {
        PeggedBells x = used();
        String saved = Rolls.all(x);
        int pegs = x.pegs();
        Check.due("37: pegs", pegs, x.save(0));
        Check.refused("38: nothing in the other slot", Rolls.STATE, () -> x.restore(1));
        x.setBound(33);
        x.setWeight(3, 60);
        x.setColumn(20, 1023);
        x.crank(123);
        String other = Rolls.all(x);
        Check.due("37: the other slot", pegs + 10, x.save(1));
        Rolls.put(x, "t");
        Check.due("38: pegs", pegs, x.restore(0));
        Check.due("38: all is as it was saved", saved, Rolls.all(x));
        Check.due("38: the pad stays", 1, x.padLength());
        x.turnPeg(0, 7);
        x.crank(3);
        x.restore(0);
        Check.due("38: the slot keeps it", saved, Rolls.all(x));
    }

    private static void slots37and38() {
        PeggedBells x = new PeggedBells();
        x.turnPeg(0, 0);
        x.save(1);
        x.turnPeg(0, 1);
        x.setBound(7);
        Check.due("37: overwritten", 2, x.save(1));
        Check.due("37: is no change", 3, x.undoable());
        x.undo();
        x.undo();
        Check.due("38: what was saved last", 2, x.restore(1));
        Check.due("38: is a change", 2, x.undoable());
        Check.due("38: the bound", 7, x.setBound(8));
        x.undo();
        Check.due("38: undone", 1, x.undo());
        Check.due("38: pegs then", 1, x.pegs());
        for (int none : Rolls.NO_SLOTS) {
            Check.refused("37: no slot", Rolls.INDEX, () -> x.save(none));
            Check.refused("38: no slot", Rolls.INDEX, () -> x.restore(none));
        }
        refusedAndNothingChanged(x, "38: restore(0)", Rolls.STATE, () -> x.restore(0));
        isNoChange("37: save(0)", x, () -> x.save(0));
        PeggedBells y = used();
        y.save(0);
        y.turnRound();
        isChange("38: restore(0)", y, () -> y.restore(0));
        PeggedBells z = new PeggedBells();
        z.turnPeg(0, 0);
        z.turnPeg(1, 0);
        z.crank(1);
        z.save(0);
        z.turnBack();
        z.restore(0);
        Check.due("38: hammers too", 1, z.whyMissed(0));
        Check.due("38: and counts", 1, z.heardOf(0));
    }

    public static void main(String[] args) {
        Check.watch();
        newObject1();
        turnPeg2();
        setColumn3();
        setTempo4();
        setWeight5();
        setBound6();
        turnRound7();
        move8();
        raise9();
        crank10();
        hammers10();
        turnBack11();
        read12();
        whatThereIs13to16();
        soFar17to21();
        most17to21();
        whyMissed22();
        inRound23();
        round24to26();
        busiest27();
        longestSilence28();
        enoughBound29();
        heaviestColumn30();
        put31();
        fullPad31();
        wipe32padLength33();
        fault34();
        undo35undoable36();
        undoOfAll35();
        save37restore38();
        slots37and38();
        Check.end("PromisesTest");
    }
}
