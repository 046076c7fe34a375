/** The promises 1 to 12: a new object, and the calls that are changes. */
final class ChangeSentences {
    private static final String IS_A_CHANGE = "This is a change.";
    private static final String OTHERS = "Returns how many pegs are others than before.";

    private ChangeSentences() {
    }

    static void tell(Sentences s) {
        newObject1(s);
        turnPeg2(s);
        setColumn3(s);
        setTempo4(s);
        setWeight5(s);
        setBound6(s);
        turnRound7(s);
        move8(s);
        raise9(s);
        crank10(s);
        turnBack11(s);
        read12(s);
    }

    private static void newObject1(Sentences s) {
        s.in("Promise 1");
        s.test("Sets up a drum without pegs.", () -> {
            PeggedBells x = new PeggedBells();
            Check.due("pegs", 0, x.pegs());
            for (int column = 0; column < 32; column++) {
                Check.due("pegsIn(" + column + ")", 0, x.pegsIn(column));
            }
            Check.due("heard in a round", 0, x.heardInRound(false));
            Check.due("the pad", 0, x.padLength());
            Check.due("the history", 0, x.undoable());
            Check.due("counts", 0, x.heard(false) + x.heard(true) + x.missed() + x.time() + x.column());
            Check.due("the bound", 120, x.setBound(1));
            x.setColumn(0, 1023);
            x.setTempo(0, 9);
            x.setWeight(0, 1);
            x.crank(1);
            x.put('.');
            x.save(0);
            Rolls.same("another one, after that", PeggedBells::new, PeggedBells::new);
            Check.due("its pegs, after that", 0, new PeggedBells().pegs());
            Check.due("its weight, after that", 60, new PeggedBells().weightOf(0));
            Check.due("its pad, after that", 0, new PeggedBells().padLength());
            Check.refused("its slot, after that", Rolls.STATE, () -> new PeggedBells().restore(0));
        });
    }

    private static void turnPeg2(Sentences s) {
        s.in("Promise 2");
        s.test("Sets a peg,", () -> {
            for (int column : new int[] {0, 7, 8, 31}) {
                for (int bell : new int[] {0, 5, 9}) {
                    PeggedBells x = new PeggedBells();
                    x.turnPeg(column, bell);
                    Check.due(column + " " + bell + ": pegsIn", 1 << bell, x.pegsIn(column));
                    Check.due(column + " " + bell + ": pegs", 1, x.pegs());
                }
            }
        });
        s.test("or takes it out, if there is one.", () -> {
            PeggedBells x = Rolls.with(1023);
            x.setColumn(31, 1023);
            x.turnPeg(0, 0);
            x.turnPeg(0, 9);
            x.turnPeg(31, 9);
            Check.due("the column 0", 510, x.pegsIn(0));
            Check.due("the column 31", 511, x.pegsIn(31));
            x.turnPeg(0, 9);
            Check.due("set again", 1022, x.pegsIn(0));
        });
        s.test(IS_A_CHANGE, () -> Rolls.isChange("turnPeg(0, 0)", x -> x.turnPeg(0, 0)));
        s.test("Returns whether there is one then.", () -> {
            PeggedBells x = new PeggedBells();
            Check.due("set", true, x.turnPeg(31, 9));
            Check.due("taken out", false, x.turnPeg(31, 9));
            Check.due("set again", true, x.turnPeg(31, 9));
            Check.due("another one", true, x.turnPeg(31, 0));
            Check.due("taken out beside another one", false, x.turnPeg(31, 9));
        });
        s.test("Throws `IndexOutOfBoundsException` if there is no such column or bell", () -> {
            PeggedBells x = new PeggedBells();
            for (int none : Rolls.NO_COLUMNS) {
                Check.refused("column " + none, Rolls.INDEX, () -> Rolls.one(x.turnPeg(none, 0)));
            }
            for (int none : Rolls.NO_BELLS) {
                Check.refused("bell " + none, Rolls.INDEX, () -> Rolls.one(x.turnPeg(0, none)));
            }
            Check.refused("both", Rolls.INDEX, () -> Rolls.one(x.turnPeg(-1, -1)));
        });
    }

    private static void setColumn3(Sentences s) {
        s.in("Promise 3");
        s.test("Sets all pegs of a column.", () -> {
            PeggedBells x = Rolls.with(7, 7, 7);
            x.setColumn(1, 0b1000000100);
            Check.due("some set, some taken out", 0b1000000100, x.pegsIn(1));
            Check.due("the column before", 7, x.pegsIn(0));
            Check.due("the column behind", 7, x.pegsIn(2));
            x.setColumn(31, 1023);
            Check.due("the last column, all", 1023, x.pegsIn(31));
            x.setColumn(0, 0);
            Check.due("the first column, none", 0, x.pegsIn(0));
        });
        s.test(IS_A_CHANGE, () -> Rolls.isChange("setColumn(0, 5)", x -> x.setColumn(0, 5)));
        s.test("- `bells`: 0 to 1023, a set", () -> {
            PeggedBells x = new PeggedBells();
            Check.due("1023", 10, x.setColumn(0, 1023));
            Check.due("0", 10, x.setColumn(0, 0));
            Check.due("1", 1, x.setColumn(0, 1));
            Check.due("512", 2, x.setColumn(0, 512));
            Check.refused("-1", Rolls.ARGUMENT, () -> x.setColumn(0, -1));
            Check.refused("1024", Rolls.ARGUMENT, () -> x.setColumn(0, 1024));
        });
        s.test(OTHERS, () -> {
            PeggedBells x = new PeggedBells();
            Check.due("none of none", 0, x.setColumn(5, 0));
            Check.due("all", 10, x.setColumn(5, 1023));
            Check.due("the same", 0, x.setColumn(5, 1023));
            Check.due("all taken out", 10, x.setColumn(5, 0));
            x.setColumn(5, 0b0000011111);
            Check.due("some set, as many taken out", 4, x.setColumn(5, 0b0001111100));
            Check.due("only set", 3, x.setColumn(5, 0b1111111100));
            Check.due("those of another column do not count", 1, x.setColumn(6, 4));
        });
        s.test("Throws `IndexOutOfBoundsException` if there is no such column", () -> {
            PeggedBells x = new PeggedBells();
            for (int none : Rolls.NO_COLUMNS) {
                Check.refused("column " + none, Rolls.INDEX, () -> x.setColumn(none, 1));
            }
        });
        s.test("Throws `IllegalArgumentException` if bells is out of range", () -> {
            PeggedBells x = new PeggedBells();
            for (int none : new int[] {Integer.MIN_VALUE, -1, 1024, 1025, Integer.MAX_VALUE}) {
                Check.refused("bells " + none, Rolls.ARGUMENT, () -> x.setColumn(31, none));
            }
        });
    }

    private static void setTempo4(Sentences s) {
        s.in("Promise 4");
        s.test("Changes the tempo of a bar.", () -> {
            PeggedBells x = new PeggedBells();
            x.setTempo(0, 9);
            x.setTempo(3, 1);
            int[] tempos = {9, 4, 4, 1};
            for (int bar = 0; bar < 4; bar++) {
                Check.due("bar " + bar, tempos[bar], x.tempoOf(bar));
            }
        });
        s.test(IS_A_CHANGE, () -> Rolls.isChange("setTempo(0, 5)", x -> x.setTempo(0, 5)));
        s.test("- `tempo`: 1 to 9", () -> {
            PeggedBells x = new PeggedBells();
            for (int tempo = 1; tempo <= 9; tempo++) {
                x.setTempo(3, tempo);
                Check.due("tempo " + tempo, tempo, x.tempoOf(3));
            }
            Check.refused("tempo 0", Rolls.ARGUMENT, () -> x.setTempo(3, 0));
            Check.refused("tempo 10", Rolls.ARGUMENT, () -> x.setTempo(3, 10));
        });
        s.test("Returns the tempo before.", () -> {
            PeggedBells x = new PeggedBells();
            Check.due("at first", 4, x.setTempo(3, 9));
            Check.due("then", 9, x.setTempo(3, 1));
            Check.due("the same", 1, x.setTempo(3, 1));
            Check.due("after that", 1, x.setTempo(3, 2));
            Check.due("another bar", 4, x.setTempo(0, 2));
        });
        s.test("Throws `IndexOutOfBoundsException` if there is no such bar", () -> {
            PeggedBells x = new PeggedBells();
            for (int none : Rolls.NO_BARS) {
                Check.refused("bar " + none, Rolls.INDEX, () -> x.setTempo(none, 4));
            }
        });
        s.test("Throws `IllegalArgumentException` if tempo is out of range", () -> {
            PeggedBells x = new PeggedBells();
            for (int none : new int[] {Integer.MIN_VALUE, -1, 0, 10, Integer.MAX_VALUE}) {
                Check.refused("tempo " + none, Rolls.ARGUMENT, () -> x.setTempo(3, none));
            }
        });
    }

    private static void setWeight5(Sentences s) {
        s.in("Promise 5");
        s.test("Changes the weight of a bell.", () -> {
            PeggedBells x = new PeggedBells();
            x.setWeight(0, 1);
            x.setWeight(9, 60);
            Check.due("bell 0", 1, x.weightOf(0));
            Check.due("bell 1", 54, x.weightOf(1));
            Check.due("bell 8", 12, x.weightOf(8));
            Check.due("bell 9", 60, x.weightOf(9));
        });
        s.test(IS_A_CHANGE, () -> Rolls.isChange("setWeight(0, 5)", x -> x.setWeight(0, 5)));
        s.test("- `weight`: 1 to 60", () -> {
            PeggedBells x = new PeggedBells();
            for (int weight = 1; weight <= 60; weight++) {
                x.setWeight(9, weight);
                Check.due("weight " + weight, weight, x.weightOf(9));
            }
            Check.refused("weight 0", Rolls.ARGUMENT, () -> x.setWeight(9, 0));
            Check.refused("weight 61", Rolls.ARGUMENT, () -> x.setWeight(9, 61));
        });
        s.test("Returns the weight before.", () -> {
            PeggedBells x = new PeggedBells();
            Check.due("at first", 6, x.setWeight(9, 60));
            Check.due("then", 60, x.setWeight(9, 1));
            Check.due("the same", 1, x.setWeight(9, 1));
            Check.due("after that", 1, x.setWeight(9, 2));
            Check.due("another bell", 60, x.setWeight(0, 2));
        });
        s.test("Throws `IndexOutOfBoundsException` if there is no such bell", () -> {
            PeggedBells x = new PeggedBells();
            for (int none : Rolls.NO_BELLS) {
                Check.refused("bell " + none, Rolls.INDEX, () -> x.setWeight(none, 30));
            }
        });
        s.test("Throws `IllegalArgumentException` if weight is out of range", () -> {
            PeggedBells x = new PeggedBells();
            for (int none : new int[] {Integer.MIN_VALUE, -1, 0, 61, Integer.MAX_VALUE}) {
                Check.refused("weight " + none, Rolls.ARGUMENT, () -> x.setWeight(9, none));
            }
        });
    }

    private static void setBound6(Sentences s) {
        s.in("Promise 6");
        s.test("Changes the bound.", () -> {
            PeggedBells x = Rolls.with(0b11);
            x.setBound(113);
            Check.due("one too small for both", 2, x.whyMissed(1));
            x.setBound(114);
            Check.due("one that is enough", 0, x.whyMissed(1));
            Check.due("what is struck with it", 2, x.crank(1));
        });
        s.test(IS_A_CHANGE, () -> Rolls.isChange("setBound(100)", x -> x.setBound(100)));
        s.test("- `bound`: 1 to 300", () -> {
            PeggedBells x = new PeggedBells();
            int before = 120;
            for (int bound = 1; bound <= 300; bound++) {
                Check.due("the bound ahead of " + bound, before, x.setBound(bound));
                before = bound;
            }
            Check.refused("0", Rolls.ARGUMENT, () -> x.setBound(0));
            Check.refused("301", Rolls.ARGUMENT, () -> x.setBound(301));
        });
        s.test("Returns the bound before.", () -> {
            PeggedBells x = new PeggedBells();
            Check.due("at first", 120, x.setBound(300));
            Check.due("then", 300, x.setBound(1));
            Check.due("the same", 1, x.setBound(1));
            Check.due("after that", 1, x.setBound(2));
        });
        s.test("Throws `IllegalArgumentException` if bound is out of range", () -> {
            PeggedBells x = new PeggedBells();
            for (int none : new int[] {Integer.MIN_VALUE, -1, 0, 301, Integer.MAX_VALUE}) {
                Check.refused("bound " + none, Rolls.ARGUMENT, () -> x.setBound(none));
            }
        });
    }

    private static void turnRound7(Sentences s) {
        s.in("Promise 7");
        s.test("Turns the roll round: the pegs of the column c come to the column 31 less c.", () -> {
            PeggedBells x = new PeggedBells();
            for (int column = 0; column < 32; column++) {
                x.setColumn(column, column + 100);
            }
            x.setTempo(0, 9);
            x.crank(5);
            x.turnRound();
            for (int column = 0; column < 32; column++) {
                Check.due("column " + column, 131 - column, x.pegsIn(column));
            }
            Check.due("the tempo stays", 9, x.tempoOf(0));
            Check.due("the other one too", 4, x.tempoOf(3));
            Check.due("the column at hand stays", 5, x.column());
        });
        s.test(IS_A_CHANGE, () -> Rolls.isChange("turnRound()", PeggedBells::turnRound));
        s.test(OTHERS, () -> {
            PeggedBells x = new PeggedBells();
            Check.due("an empty roll", 0, x.turnRound());
            x.turnPeg(0, 9);
            Check.due("one peg", 2, x.turnRound());
            x.turnPeg(0, 9);
            Check.due("one that is the same from both ends", 0, x.turnRound());
            x.turnPeg(15, 0);
            Check.due("one peg in the middle", 2, x.turnRound());
            Check.due("back", 2, x.turnRound());
            x.setColumn(16, 0b11);
            Check.due("one peg that the other has, too", 2, x.turnRound());
        });
    }

    private static void move8(Sentences s) {
        s.in("Promise 8");
        s.test("Moves the roll: the pegs of each column come so many columns on, round the drum.", () -> {
            for (int columns : new int[] {1, 2, 8, 16, 30, 31}) {
                PeggedBells x = new PeggedBells();
                for (int column = 0; column < 32; column++) {
                    x.setColumn(column, column + 100);
                }
                x.setTempo(0, 9);
                x.crank(5);
                x.move(columns);
                for (int column = 0; column < 32; column++) {
                    int to = column + columns < 32 ? column + columns : column + columns - 32;
                    Check.due("column " + column + " by " + columns, column + 100, x.pegsIn(to));
                }
                Check.due("the tempo stays", 9, x.tempoOf(0));
                Check.due("the column at hand stays", 5, x.column());
            }
        });
        s.test(IS_A_CHANGE, () -> Rolls.isChange("move(5)", x -> x.move(5)));
        s.test("- `columns`: 1 to 31", () -> {
            PeggedBells x = Rolls.with(1);
            int at = 0;
            for (int columns = 1; columns <= 31; columns++) {
                x.move(columns);
                at = (at + columns) % 32;
                Check.due("by " + columns, 1, x.pegsIn(at));
            }
            Check.refused("by 0", Rolls.ARGUMENT, () -> x.move(0));
            Check.refused("by 32", Rolls.ARGUMENT, () -> x.move(32));
        });
        s.test(OTHERS, () -> {
            PeggedBells x = new PeggedBells();
            Check.due("an empty roll", 0, x.move(1));
            x.turnPeg(31, 9);
            Check.due("one peg", 2, x.move(1));
            x.turnPeg(16, 9);
            Check.due("to where the other one was, and that to where it was", 0, x.move(16));
            Check.due("both to where none was", 4, x.move(31));
            for (int column = 0; column < 32; column++) {
                x.setColumn(column, 1023);
            }
            Check.due("a full roll", 0, x.move(1));
        });
        s.test("Throws `IllegalArgumentException` if columns is out of range", () -> {
            PeggedBells x = new PeggedBells();
            for (int none : new int[] {Integer.MIN_VALUE, -31, -1, 0, 32, 33, Integer.MAX_VALUE}) {
                Check.refused("by " + none, Rolls.ARGUMENT, () -> x.move(none));
            }
        });
    }

    private static void raise9(Sentences s) {
        s.in("Promise 9");
        s.test("Raises the roll by a bell: each peg comes to the next bell;", () -> {
            PeggedBells x = new PeggedBells();
            for (int column = 0; column < 32; column++) {
                x.setColumn(column, column + 1);
            }
            x.raise();
            for (int column = 0; column < 32; column++) {
                Check.due("column " + column, 2 * (column + 1), x.pegsIn(column));
            }
            Check.due("weights stay", 60, x.weightOf(0));
            Check.due("the last one, too", 6, x.weightOf(9));
        });
        s.test("those of the bell 9 are taken out.", () -> {
            PeggedBells x = Rolls.with(512, 1023, 768);
            x.setColumn(31, 512);
            x.raise();
            Check.due("the only one", 0, x.pegsIn(0));
            Check.due("the last of all, and none comes to the bell 0", 1022, x.pegsIn(1));
            Check.due("that of the bell 8 comes in its place", 512, x.pegsIn(2));
            Check.due("in the last column", 0, x.pegsIn(31));
        });
        s.test(IS_A_CHANGE, () -> Rolls.isChange("raise()", PeggedBells::raise));
        s.test("Returns how many pegs are taken out.", () -> {
            PeggedBells x = new PeggedBells();
            Check.due("of an empty roll", 0, x.raise());
            x.setColumn(0, 511);
            Check.due("without the bell 9", 0, x.raise());
            Check.due("with it", 1, x.raise());
            for (int column = 0; column < 32; column++) {
                x.setColumn(column, 1023);
            }
            for (int times = 0; times < 10; times++) {
                Check.due("of a full roll", 32, x.raise());
            }
            Check.due("of a roll that is empty then", 0, x.raise());
        });
    }

    private static void crank10(Sentences s) {
        s.in("Promise 10");
        s.test("Turns the crank.", () -> {
            PeggedBells x = Rolls.with(1, 2, 4, 8);
            x.crank(3);
            Check.due("column", 3, x.column());
            Check.due("time", 12, x.time());
            Check.due("heard", 3, x.heard(false));
            Check.due("heard of the bell 2", 1, x.heardOf(2));
            Check.due("heard of the bell 3", 0, x.heardOf(3));
            Check.due("pegs stay", 4, x.pegs());
        });
        s.test(IS_A_CHANGE, () -> Rolls.isChange("crank(9)", x -> x.crank(9)));
        s.test("- `columns`: 1 to 200", () -> {
            int columns = 0;
            PeggedBells x = new PeggedBells();
            for (int turned = 1; turned <= 200; turned++) {
                x.crank(turned);
                columns += turned;
                Check.due("crank(" + turned + ")", columns % 32, x.column());
            }
            Check.due("the time of all", 4 * columns, x.time());
            Check.refused("crank(0)", Rolls.ARGUMENT, () -> x.crank(0));
            Check.refused("crank(201)", Rolls.ARGUMENT, () -> x.crank(201));
        });
        s.test("Returns how many bells are heard in them.", () -> {
            PeggedBells x = Rolls.with(0b1000000011, 0b1, 0b1000000000);
            Check.due("three, one that is missed, and one again", 4, x.crank(3));
            Check.due("none", 0, x.crank(1));
            Check.due("only those of now", 4, x.crank(32));
            Check.due("the most columns", 6 * 4, x.crank(200));
        });
        s.test("Throws `IllegalArgumentException` if columns is out of range", () -> {
            PeggedBells x = new PeggedBells();
            for (int none : new int[] {Integer.MIN_VALUE, -1, 0, 201, Integer.MAX_VALUE}) {
                Check.refused("crank(" + none + ")", Rolls.ARGUMENT, () -> x.crank(none));
            }
        });
    }

    private static void turnBack11(Sentences s) {
        s.in("Promise 11");
        s.test("Turns the drum back to the column 0: it is at hand,", () -> {
            PeggedBells x = Rolls.with(512, 256);
            for (int columns : new int[] {1, 7, 31, 32, 33, 200}) {
                x.crank(columns);
                x.turnBack();
                Check.due("after " + columns, 0, x.column());
            }
            Check.due("its peg", 0, x.whyMissed(9));
            Check.due("no other one's", 3, x.whyMissed(8));
            x.crank(1);
            Check.due("the next one", 1, x.column());
        });
        s.test("and all hammers are back;", () -> {
            PeggedBells x = Rolls.with(0b0000011111, 0b1111100000);
            for (int bell = 0; bell < 10; bell++) {
                x.setWeight(bell, 60);
            }
            x.setBound(300);
            Check.due("all are heard", 10, x.crank(2));
            x.turnBack();
            Check.due("all are heard again", 10, x.crank(2));
            x.turnBack();
            x.setColumn(0, 1023);
            for (int bell = 0; bell < 10; bell++) {
                Check.due("bell " + bell, bell < 5 ? 0 : 2, x.whyMissed(bell));
            }
            x.crank(1);
            x.setWeight(0, 1);
            x.turnBack();
            x.setWeight(0, 60);
            Check.due("a weight that is changed then", 0, x.whyMissed(0));
        });
        s.test("counts and the time stay.", () -> {
            PeggedBells x = Rolls.with(0b11, 0b11);
            x.crank(33);
            x.turnBack();
            Check.due("heard", 4, x.heard(false));
            Check.due("by bells", 4, x.heard(true));
            Check.due("heardOf", 2, x.heardOf(1));
            Check.due("missed", 2, x.missed());
            Check.due("time", 132, x.time());
            Check.due("pegs", 4, x.pegs());
        });
        s.test(IS_A_CHANGE, () -> Rolls.isChange("turnBack()", PeggedBells::turnBack));
        s.test("Returns the column that was at hand.", () -> {
            PeggedBells x = new PeggedBells();
            Check.due("0, at first", 0, x.turnBack());
            x.crank(31);
            Check.due("31", 31, x.turnBack());
            x.crank(32);
            Check.due("round the drum", 0, x.turnBack());
            x.crank(33);
            Check.due("and one more", 1, x.turnBack());
            Check.due("turned back already", 0, x.turnBack());
        });
    }

    private static void read12(Sentences s) {
        s.in("Promise 12");
        s.test("Does what the pad tells, part by part,", () -> {
            PeggedBells x = new PeggedBells();
            Rolls.read(x, "0:9");
            Check.due("a single part", 512, x.pegsIn(0));
            Rolls.read(x, "1:9;t09;.;t01;1:9;1:8;.;31:0;t32;.");
            Check.due("in their order: heard of the bell 9", 1, x.heardOf(9));
            Check.due("in their order: heard of the bell 8", 1, x.heardOf(8));
            Check.due("in their order: time", 9 + 1 + 1, x.time());
            Check.due("the last part", 3, x.column());
            Check.due("pegs", 3, x.pegs());
            Check.due("the last tempo", 2, x.tempoOf(3));
            Rolls.read(x, ".;t09;.");
            Check.due("a tempo that comes behind", 11 + 1 + 9, x.time());
            PeggedBells y = new PeggedBells();
            Rolls.read(y, ".;".repeat(28) + "31:7");
            Check.due("a full pad", 28, y.column());
            Check.due("its last part", 128, y.pegsIn(31));
        });
        s.test("and empties the pad.", () -> {
            PeggedBells x = new PeggedBells();
            Rolls.read(x, ".");
            Check.due("length", 0, x.padLength());
            Check.due("fault", 0, x.fault());
            Check.refused("nothing is read twice", Rolls.ARGUMENT, x::read);
            Rolls.read(x, ";.".repeat(30).substring(1));
            Check.due("a long one", 0, x.padLength());
            Check.due("there is room again", 60, Rolls.put(x, "x".repeat(60)));
        });
        s.test(IS_A_CHANGE, () -> {
            Rolls.isChange("read()", PeggedBells::read);
            PeggedBells x = new PeggedBells();
            Rolls.read(x, ".;0:1;t01;.;.;.;.;.;.;.");
            Check.due("one, whatever it does", 1, x.undoable());
            x.undo();
            Check.due("undone as one", 0, x.time() + x.column() + x.pegs());
        });
        s.test("Returns how many bells are heard.", () -> {
            PeggedBells x = new PeggedBells();
            Check.due("no column is struck", 0, Rolls.read(x, "0:09;1:9;2:0;t01"));
            Check.due("two, one again, and one that is missed", 3, Rolls.read(x, ".;.2"));
            Check.due("in several parts", 1, Rolls.read(x, "3:8;.;.;.9"));
            Check.due("nothing to hear", 0, Rolls.read(x, ".9"));
        });
        s.test("Throws `IllegalArgumentException` if the pad has a fault", () -> {
            PeggedBells x = new PeggedBells();
            Check.refused("an empty pad", Rolls.ARGUMENT, x::read);
            for (String text : new String[] {"x", ".;", "0:", "32:0", "00:0", "t40", ".1", ".;.;;", "0:1;t1"}) {
                Rolls.put(x, text);
                Check.refused(text, Rolls.ARGUMENT, x::read);
                Check.due(text + " stays", text.length(), x.wipe());
            }
            Rolls.put(x, ".".repeat(60));
            Check.refused("a full pad", Rolls.ARGUMENT, x::read);
            Check.due("nothing is done", 0, x.time() + x.pegs() + x.undoable());
        });
    }
}
