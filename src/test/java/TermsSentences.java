import java.util.LinkedHashMap;
import java.util.Map;
import java.util.function.Consumer;

/** What the document says ahead of its promises, but for the texts. */
final class TermsSentences {
    private TermsSentences() {
    }

    static void tell(Sentences s) {
        s.in("What it is");
        s.promisesNothing("Carillon practice rolls of pegs, cranks and bells: a drum with columns in bars, pegs for "
                + "bells, bells of some weight whose hammers need time to come back, columns in which too much would "
                + "be struck, bars with a tempo of their own, a crank that turns the drum, strikes that are heard and "
                + "those that are missed, told column by column and bell by bell, time of a round, told by bars and "
                + "by columns, rolls that are turned round, moved and raised, the longest silence, the busiest bell, "
                + "pegs that are missed, the bound that is enough, reasons why a bell is not heard, rolls that are "
                + "read from texts, undo, and saved states.");
        calls(s);
        s.in("Terms");
        s.promisesNothing("EXCEPTIONS.");
        exceptions(s);
        numbers(s);
        s.promisesNothing("The drum, pegs");
        drum(s);
        bars(s);
        s.in("Striking");
        striking(s);
        hammers(s);
        bound(s);
        time(s);
        round(s);
    }

    private static void calls(Sentences s) {
        s.test("An object is used for at most 512 calls after it has been made; what later calls answer is free.",
                () -> {
            PeggedBells x = new PeggedBells();
            for (int calls = 1; calls <= 512; calls++) {
                Check.due("call " + calls, calls % 2 == 1, x.turnPeg(31, 9));
            }
            PeggedBells y = Rolls.with(1, 1, 1, 1);
            y.setTempo(0, 9);
            for (int calls = 6; calls < 511; calls++) {
                y.crank(200);
            }
            // 505 times 200 columns are 3156 rounds of 40 ticks more than 128, and 8 columns of 9.
            Check.due("call 511", 3156 * 168 + 8 * 9, y.time());
            Check.due("call 512", 3157, y.heard(false));
        });
    }

    // ---- exceptions

    private static void exceptions(Sentences s) {
        s.test("A method throws IndexOutOfBoundsException, if what it is asked about does not exist,",
                TermsSentences::whatDoesNotExist);
        s.test("IllegalArgumentException, if another argument is out of its range,", TermsSentences::outOfRange);
        s.test("and IllegalStateException as its words tell;", () -> {
            PeggedBells x = new PeggedBells();
            Check.refused("undo, none", Rolls.STATE, x::undo);
            Check.refused("restore(0), nothing saved", Rolls.STATE, () -> x.restore(0));
            Check.refused("restore(1), nothing saved", Rolls.STATE, () -> x.restore(1));
            Rolls.put(x, ".".repeat(60));
            Check.refused("put, no room", Rolls.STATE, () -> x.put('.'));
        });
        s.test("if several apply, the one that is named first in its throws clause.", TermsSentences::severalApply);
        s.test("A method that throws an exception changes nothing.", TermsSentences::refusedChangesNothing);
    }

    private static void whatDoesNotExist() {
        PeggedBells x = new PeggedBells();
        for (int none : Rolls.NO_COLUMNS) {
            Check.refused("turnPeg, column " + none, Rolls.INDEX, () -> Rolls.one(x.turnPeg(none, 0)));
            Check.refused("setColumn, column " + none, Rolls.INDEX, () -> x.setColumn(none, 0));
            Check.refused("pegsIn, column " + none, Rolls.INDEX, () -> x.pegsIn(none));
            Check.refused("inRound, column " + none, Rolls.INDEX, () -> x.inRound(none));
        }
        for (int none : Rolls.NO_BELLS) {
            Check.refused("turnPeg, bell " + none, Rolls.INDEX, () -> Rolls.one(x.turnPeg(0, none)));
            Check.refused("setWeight, bell " + none, Rolls.INDEX, () -> x.setWeight(none, 1));
            Check.refused("weightOf, bell " + none, Rolls.INDEX, () -> x.weightOf(none));
            Check.refused("heardOf, bell " + none, Rolls.INDEX, () -> x.heardOf(none));
            Check.refused("whyMissed, bell " + none, Rolls.INDEX, () -> x.whyMissed(none));
        }
        for (int none : Rolls.NO_BARS) {
            Check.refused("setTempo, bar " + none, Rolls.INDEX, () -> x.setTempo(none, 1));
            Check.refused("tempoOf, bar " + none, Rolls.INDEX, () -> x.tempoOf(none));
        }
        for (int none : Rolls.NO_SLOTS) {
            Check.refused("save, slot " + none, Rolls.INDEX, () -> x.save(none));
            Check.refused("restore, slot " + none, Rolls.INDEX, () -> x.restore(none));
        }
    }

    private static void outOfRange() {
        PeggedBells x = new PeggedBells();
        Check.refused("setColumn(0, -1)", Rolls.ARGUMENT, () -> x.setColumn(0, -1));
        Check.refused("setColumn(0, 1024)", Rolls.ARGUMENT, () -> x.setColumn(0, 1024));
        Check.refused("setTempo(0, 0)", Rolls.ARGUMENT, () -> x.setTempo(0, 0));
        Check.refused("setTempo(0, 10)", Rolls.ARGUMENT, () -> x.setTempo(0, 10));
        Check.refused("setWeight(0, 0)", Rolls.ARGUMENT, () -> x.setWeight(0, 0));
        Check.refused("setWeight(0, 61)", Rolls.ARGUMENT, () -> x.setWeight(0, 61));
        Check.refused("setBound(0)", Rolls.ARGUMENT, () -> x.setBound(0));
        Check.refused("setBound(301)", Rolls.ARGUMENT, () -> x.setBound(301));
        Check.refused("move(0)", Rolls.ARGUMENT, () -> x.move(0));
        Check.refused("move(32)", Rolls.ARGUMENT, () -> x.move(32));
        Check.refused("crank(0)", Rolls.ARGUMENT, () -> x.crank(0));
        Check.refused("crank(201)", Rolls.ARGUMENT, () -> x.crank(201));
        Check.refused("put(0)", Rolls.ARGUMENT, () -> x.put(0));
        Check.refused("put(32)", Rolls.ARGUMENT, () -> x.put(32));
        Check.refused("put(127)", Rolls.ARGUMENT, () -> x.put(127));
    }

    private static void severalApply() {
        PeggedBells x = new PeggedBells();
        Check.refused("turnPeg(32, 10)", Rolls.INDEX, () -> Rolls.one(x.turnPeg(32, 10)));
        for (int wrong : new int[] {-1, 1024}) {
            Check.refused("setColumn(-1, " + wrong + ")", Rolls.INDEX, () -> x.setColumn(-1, wrong));
            Check.refused("setColumn(32, " + wrong + ")", Rolls.INDEX, () -> x.setColumn(32, wrong));
        }
        for (int wrong : new int[] {0, 10}) {
            Check.refused("setTempo(-1, " + wrong + ")", Rolls.INDEX, () -> x.setTempo(-1, wrong));
            Check.refused("setTempo(4, " + wrong + ")", Rolls.INDEX, () -> x.setTempo(4, wrong));
        }
        for (int wrong : new int[] {0, 61}) {
            Check.refused("setWeight(-1, " + wrong + ")", Rolls.INDEX, () -> x.setWeight(-1, wrong));
            Check.refused("setWeight(10, " + wrong + ")", Rolls.INDEX, () -> x.setWeight(10, wrong));
        }
        // Nothing was saved in a slot that does not exist, either.
        Check.refused("restore(-1)", Rolls.INDEX, () -> x.restore(-1));
        Check.refused("restore(2)", Rolls.INDEX, () -> x.restore(2));
        Rolls.put(x, ".".repeat(60));
        Check.refused("put(0), a full pad", Rolls.ARGUMENT, () -> x.put(0));
        Check.refused("put(\" \"), a full pad", Rolls.ARGUMENT, () -> x.put(' '));
        Check.refused("put(\" .......\"), a full pad", Rolls.ARGUMENT, () -> x.put(Rolls.number(" .......")));
        Check.refused("put(-1), a full pad", Rolls.ARGUMENT, () -> x.put(-1));
        Check.refused("put, characters behind a 0, a full pad", Rolls.ARGUMENT, () -> x.put(0x2E002E));
    }

    private static Map<String, Consumer<PeggedBells>> refused() {
        Map<String, Consumer<PeggedBells>> refused = new LinkedHashMap<>();
        refused.put("turnPeg(32, 0)", x -> x.turnPeg(32, 0));
        refused.put("turnPeg(0, 10)", x -> x.turnPeg(0, 10));
        refused.put("setColumn(32, 0)", x -> x.setColumn(32, 0));
        refused.put("setColumn(0, 1024)", x -> x.setColumn(0, 1024));
        refused.put("setTempo(4, 1)", x -> x.setTempo(4, 1));
        refused.put("setTempo(0, 10)", x -> x.setTempo(0, 10));
        refused.put("setWeight(10, 1)", x -> x.setWeight(10, 1));
        refused.put("setWeight(0, 61)", x -> x.setWeight(0, 61));
        refused.put("setBound(301)", x -> x.setBound(301));
        refused.put("move(32)", x -> x.move(32));
        refused.put("crank(201)", x -> x.crank(201));
        refused.put("pegsIn(32)", x -> x.pegsIn(32));
        refused.put("tempoOf(4)", x -> x.tempoOf(4));
        refused.put("weightOf(10)", x -> x.weightOf(10));
        refused.put("heardOf(10)", x -> x.heardOf(10));
        refused.put("whyMissed(10)", x -> x.whyMissed(10));
        refused.put("inRound(32)", x -> x.inRound(32));
        refused.put("put(0)", x -> x.put(0));
        refused.put("put(\";.;. ;.9\")", x -> x.put(Rolls.number(";.;. ;.9")));
        refused.put("save(2)", x -> x.save(2));
        refused.put("restore(2)", x -> x.restore(2));
        return refused;
    }

    private static void refusedChangesNothing() {
        refused().forEach((call, does) -> Rolls.changesNothing(call, x -> isRefused(call, x, does)));
        Rolls.same("read(), a pad with a fault",
                () -> Rolls.after(Rolls.used(), x -> Rolls.put(x, ";")),
                () -> Rolls.after(Rolls.used(), x -> {
                    Rolls.put(x, ";");
                    isRefused("read()", x, PeggedBells::read);
                }));
        String full = ";.".repeat(24) + ";t1";
        Rolls.same("put(\"4;.9\"), room for three",
                () -> Rolls.after(Rolls.used(), x -> Rolls.put(x, full + "2")),
                () -> Rolls.after(Rolls.used(), x -> {
                    Rolls.put(x, full);
                    isRefused("put(\"4;.9\")", x, y -> y.put(Rolls.number("4;.9")));
                    Rolls.put(x, "2");
                }));
        Rolls.same("undo(), none", TermsSentences::nothingToUndo,
                () -> Rolls.after(nothingToUndo(), x -> isRefused("undo()", x, PeggedBells::undo)));
        Rolls.same("restore(1), nothing saved", TermsSentences::oneSlotSaved,
                () -> Rolls.after(oneSlotSaved(), x -> isRefused("restore(1)", x, y -> y.restore(1))));
    }

    private static PeggedBells nothingToUndo() {
        return Rolls.after(Rolls.used(), x -> {
            while (x.undoable() > 0) {
                x.undo();
            }
        });
    }

    private static PeggedBells oneSlotSaved() {
        PeggedBells x = Rolls.with(1, 515, 3);
        x.save(0);
        x.crank(2);
        Rolls.put(x, ".3");
        return x;
    }

    private static void isRefused(String call, PeggedBells x, Consumer<PeggedBells> does) {
        String got = "nothing";
        try {
            does.accept(x);
        } catch (RuntimeException e) {
            got = "an exception";
        }
        Check.due(call + " throws", "an exception", got);
    }

    // ---- numbers and sets

    private static void numbers(Sentences s) {
        s.test("NONE (-1) is returned where there is nothing to tell.", () -> {
            PeggedBells x = new PeggedBells();
            Check.due("NONE", -1, PeggedBells.NONE);
            Check.due("busiest of nothing", -1, x.busiest());
            Check.due("heaviestColumn of nothing", -1, x.heaviestColumn());
            x.put('.');
            Check.due("fault of none", -1, x.fault());
            x.setColumn(0, 1023);
            Check.due("enoughBound of too much", -1, x.enoughBound());
        });
        s.test("Everything is numbered from 0.", () -> {
            PeggedBells x = new PeggedBells();
            Check.due("a peg for the bell 0 in the column 0", true, x.turnPeg(0, 0));
            Check.due("the bar 0", 4, x.setTempo(0, 9));
            Check.due("the bell 0", 60, x.setWeight(0, 59));
            Check.due("the slot 0", 1, x.save(0));
            Check.due("the column 0 is at hand", 0, x.column());
            Check.due("what is heard there", 1, x.crank(1));
            Check.due("the bar's tempo", 9, x.time());
            Check.due("the heaviest column", 0, x.heaviestColumn());
            Check.due("the busiest bell", 0, x.busiest());
            Check.due("the character 0 of the pad", 0, Rolls.faultOf("x"));
            Rolls.read(x, "0:0;t01");
            Check.due("the column 0 and the bell 0 in a text", 0, x.pegs());
            Check.due("the bar 0 in a text", 1, x.tempoOf(0));
        });
        s.test("Sets are bit masks.", () -> {
            PeggedBells x = new PeggedBells();
            x.setBound(300);
            for (int bell = 0; bell < 10; bell++) {
                x.setColumn(0, 1 << bell);
                Check.due("pegsIn of the bell " + bell, 1 << bell, x.pegsIn(0));
                Check.due("inRound of the bell " + bell, 1 << bell, x.inRound(0));
                Check.due("its peg", false, x.turnPeg(0, bell));
                Check.due("what is left are those in the column 31", bell, x.pegs());
                x.turnPeg(31, bell);
            }
            Check.due("all", 1023, x.pegsIn(31));
        });
        s.test("Divisions are rounded down.", () -> {
            int[] weights = {1, 19, 20, 21, 39, 40, 41, 59, 60};
            String[] heard = {"xxxx", "xxxx", "x-x-", "x-x-", "x-x-", "x--x", "x--x", "x--x", "x---"};
            for (int index = 0; index < weights.length; index++) {
                PeggedBells x = Rolls.with(512, 512, 512, 512);
                x.setWeight(9, weights[index]);
                StringBuilder told = new StringBuilder();
                for (int column = 0; column < 4; column++) {
                    told.append(x.crank(1) == 1 ? 'x' : '-');
                }
                Check.due("with the weight " + weights[index], heard[index], told.toString());
            }
        });
    }

    // ---- the drum

    private static void drum(Sentences s) {
        s.test("The drum is a ring of 32 columns, 0 to 31,", () -> {
            PeggedBells x = new PeggedBells();
            for (int column = 0; column < 32; column++) {
                x.setColumn(column, column + 1);
            }
            for (int column = 0; column < 32; column++) {
                Check.due("column " + column, column + 1, x.pegsIn(column));
            }
            Check.refused("column -1", Rolls.INDEX, () -> x.pegsIn(-1));
            Check.refused("column 32", Rolls.INDEX, () -> x.pegsIn(32));
            for (int columns = 0; columns < 32; columns++) {
                Check.due("at hand after " + columns, columns, x.column());
                x.crank(1);
            }
            Check.due("at hand after 32", 0, x.column());
        });
        s.test("in 4 bars, 0 to 3, of 8 columns each;", () -> {
            int[] tempos = {1, 2, 3, 9};
            PeggedBells x = new PeggedBells();
            for (int bar = 0; bar < 4; bar++) {
                x.setTempo(bar, tempos[bar]);
            }
            for (int column = 0; column < 33; column++) {
                int before = x.time();
                x.crank(1);
                Check.due("the ticks of the column " + column % 32, tempos[column % 32 / 8], x.time() - before);
            }
            Check.refused("bar -1", Rolls.INDEX, () -> x.tempoOf(-1));
            Check.refused("bar 4", Rolls.INDEX, () -> x.tempoOf(4));
        });
        s.test("behind the column 31 comes the column 0.", () -> {
            PeggedBells x = Rolls.with(512);
            x.setColumn(31, 256);
            x.crank(31);
            Check.due("at hand", 31, x.column());
            Check.due("it has a peg for the bell 8", 0, x.whyMissed(8));
            x.crank(1);
            Check.due("at hand then", 0, x.column());
            Check.due("it has a peg for the bell 9", 0, x.whyMissed(9));
            Check.due("more than a round at once", 3, x.crank(33));
            Check.due("at hand at last", 1, x.column());
            Check.due("six rounds and 8 columns", 12, x.crank(200));
            Check.due("at hand after them", 9, x.column());
            Check.due("a move over it", 4, x.move(1));
            Check.due("31 to 0", 256, x.pegsIn(0));
        });
        s.test("There are 10 bells, 0 to 9.", () -> {
            PeggedBells x = new PeggedBells();
            for (int bell = 0; bell < 10; bell++) {
                x.setWeight(bell, bell + 1);
                x.turnPeg(0, bell);
            }
            Check.due("all are heard", 10, x.crank(1));
            for (int bell = 0; bell < 10; bell++) {
                Check.due("weight of " + bell, bell + 1, x.weightOf(bell));
                Check.due("heard of " + bell, 1, x.heardOf(bell));
            }
            Check.refused("bell -1", Rolls.INDEX, () -> x.weightOf(-1));
            Check.refused("bell 10", Rolls.INDEX, () -> x.weightOf(10));
            Check.refused("its peg", Rolls.INDEX, () -> Rolls.one(x.turnPeg(0, 10)));
            Check.refused("a set with it", Rolls.ARGUMENT, () -> x.setColumn(0, 1024));
        });
        s.test("In each column is a peg for a bell or none (none, at first).", () -> {
            PeggedBells none = new PeggedBells();
            for (int column = 0; column < 32; column++) {
                Check.due("column " + column + " at first", 0, none.pegsIn(column));
                PeggedBells x = new PeggedBells();
                for (int bell = 0; bell < 10; bell++) {
                    Check.due("one is set", true, x.turnPeg(column, bell));
                    Check.due("there is no second one for a bell", bell + 1, x.pegs());
                    Check.due("pegs for those up to " + bell, (2 << bell) - 1, x.pegsIn(column));
                }
            }
        });
    }

    private static void bars(Sentences s) {
        s.test("Each bar has a tempo, 1 to 9 ticks (4 at first):", () -> {
            PeggedBells x = new PeggedBells();
            for (int bar = 0; bar < 4; bar++) {
                int last = bar;
                Check.due("bar " + bar + " at first", 4, x.tempoOf(bar));
                Check.due("set to 1", 4, x.setTempo(bar, 1));
                Check.due("set to 9", 1, x.setTempo(bar, 9));
                Check.refused("set to 0", Rolls.ARGUMENT, () -> x.setTempo(last, 0));
                Check.refused("set to 10", Rolls.ARGUMENT, () -> x.setTempo(last, 10));
                Check.due("it stays", 9, x.tempoOf(bar));
            }
        });
        s.test("as long each of its columns lasts.", () -> {
            PeggedBells x = new PeggedBells();
            x.setTempo(1, 9);
            x.crank(8);
            Check.due("the columns 0 to 7", 8 * 4, x.time());
            x.crank(1);
            Check.due("the column 8", 8 * 4 + 9, x.time());
            x.crank(7);
            Check.due("up to the column 15", 8 * 4 + 8 * 9, x.time());
            x.crank(1);
            Check.due("the column 16", 8 * 4 + 8 * 9 + 4, x.time());
        });
        s.test("Each bell has a weight, 1 to 60 (at first the bell b has 60 less 6 times b).", () -> {
            int[] weights = {60, 54, 48, 42, 36, 30, 24, 18, 12, 6};
            PeggedBells x = new PeggedBells();
            for (int bell = 0; bell < 10; bell++) {
                int last = bell;
                Check.due("bell " + bell + " at first", weights[bell], x.weightOf(bell));
                Check.due("set to 1", weights[bell], x.setWeight(bell, 1));
                Check.due("set to 60", 1, x.setWeight(bell, 60));
                Check.refused("set to 0", Rolls.ARGUMENT, () -> x.setWeight(last, 0));
                Check.refused("set to 61", Rolls.ARGUMENT, () -> x.setWeight(last, 61));
                Check.due("it stays", 60, x.weightOf(bell));
            }
        });
    }

    // ---- striking

    private static void striking(Sentences s) {
        s.test("When the crank is turned by a column, the column at hand (0 at first) is struck,", () -> {
            PeggedBells x = Rolls.with(512, 256);
            Check.due("at hand at first", 0, x.column());
            Check.due("heard in it", 1, x.crank(1));
            Check.due("that of the column 0", 1, x.heardOf(9));
            Check.due("not that of the column 1", 0, x.heardOf(8));
        });
        s.test("and then the next one is at hand.", () -> {
            PeggedBells x = Rolls.with(512, 256);
            x.crank(1);
            Check.due("at hand", 1, x.column());
            Check.due("with its peg", 0, x.whyMissed(8));
            Check.due("not with the one before", 3, x.whyMissed(9));
            x.crank(1);
            Check.due("at hand then", 2, x.column());
            Check.due("that of the column 1", 1, x.heardOf(8));
        });
        s.test("In a column, the bells that have a peg in it are looked at by rising numbers.", () -> {
            PeggedBells x = Rolls.with(0b1000000010);
            x.setWeight(9, 54);
            x.setBound(107);
            Check.due("the lower one is heard", 0, x.whyMissed(1));
            Check.due("there is no room for the other", 2, x.whyMissed(9));
            Check.due("one without a peg takes no room", 3, x.whyMissed(0));
            Check.due("in a round", 2, x.inRound(0));
            Check.due("one is heard", 1, x.crank(1));
            Check.due("it is the lower one", 1, x.heardOf(1));
            Check.due("only the other is missed", 1, x.missed());
            PeggedBells y = Rolls.with(1023);
            for (int bell = 0; bell < 10; bell++) {
                y.setWeight(bell, 60 - bell % 2);
            }
            y.setBound(239);
            Check.due("the first four of equal ones", 0b1111, y.inRound(0));
        });
        s.test("A bell is missed for the first of these reasons that applies:", () -> {
            PeggedBells x = Rolls.with(1, 1);
            x.crank(1);
            Check.due("its hammer alone", 1, x.whyMissed(0));
            x.setBound(59);
            Check.due("its hammer and the bound", 1, x.whyMissed(0));
            x.turnBack();
            Check.due("the bound alone", 2, x.whyMissed(0));
            x.setBound(60);
            Check.due("none of them", 0, x.whyMissed(0));
        });
        s.test("Otherwise it is heard.", () -> {
            PeggedBells x = Rolls.with(1, 0, 0, 0, 1);
            x.setBound(60);
            Check.due("at first", 1, x.crank(1));
            x.crank(3);
            Check.due("why not", 0, x.whyMissed(0));
            Check.due("as soon as its hammer is back, and just within the bound", 1, x.crank(1));
            Check.due("heard", 2, x.heardOf(0));
            Check.due("none is missed", 0, x.missed());
        });
        s.test("(At first all hammers are back.)", () -> {
            PeggedBells x = Rolls.with(1023);
            for (int bell = 0; bell < 10; bell++) {
                x.setWeight(bell, 60);
            }
            x.setBound(300);
            for (int bell = 0; bell < 10; bell++) {
                Check.due("bell " + bell, bell < 5 ? 0 : 2, x.whyMissed(bell));
            }
            Check.due("heard in the first column", 5, x.crank(1));
        });
    }

    private static void hammers(Sentences s) {
        s.test("1 its hammer is not back: since it was heard the last time, fewer columns were struck, this one "
                + "counted, than its weight divided by 20, and 1, together;", () -> {
            for (int weight = 1; weight <= 60; weight++) {
                for (int columns = 1; columns <= 5; columns++) {
                    hammer(weight, columns);
                }
            }
            lastTimeHeard();
            columnsStruck();
        });
    }

    /** A bell that is heard, and looked at so many columns later. */
    private static void hammer(int weight, int columns) {
        PeggedBells x = new PeggedBells();
        x.setWeight(4, weight);
        x.turnPeg(30, 4);
        x.turnPeg((30 + columns) % 32, 4);
        x.crank(30);
        String what = "weight " + weight + ", " + columns + " columns on: ";
        Check.due(what + "the first time", 1, x.crank(1));
        for (int column = 1; column < columns; column++) {
            x.crank(1);
        }
        boolean back = columns >= weight / 20 + 1;
        Check.due(what + "why", back ? 0 : 1, x.whyMissed(4));
        Check.due(what + "heard", back ? 1 : 0, x.crank(1));
        Check.due(what + "missed", back ? 0 : 1, x.missed());
    }

    /** One that was missed does not keep the hammer away; one that is heard again does. */
    private static void lastTimeHeard() {
        PeggedBells x = Rolls.with(1, 1, 1, 1, 1, 1, 1, 1, 1);
        int[] heard = {1, 0, 0, 0, 1, 0, 0, 0, 1};
        for (int column = 0; column < heard.length; column++) {
            Check.due("the column " + column + " of nine", heard[column], x.crank(1));
        }
        PeggedBells y = Rolls.with(1, 0, 0, 0, 1, 1);
        y.crank(1);
        y.setBound(1);
        y.crank(4);
        y.setBound(60);
        Check.due("after one that the bound let be missed", 0, y.whyMissed(0));
        PeggedBells z = Rolls.with(1, 512, 1);
        z.setWeight(0, 39);
        Check.due("another bell, between two strikes of one", 2, z.crank(2));
        Check.due("each bell has its own hammer", 0, z.whyMissed(0));
    }

    /** Only columns that are struck count, whatever else happens, and the weight that the bell has now. */
    private static void columnsStruck() {
        PeggedBells x = Rolls.with(1, 1);
        x.crank(1);
        x.move(31);
        x.turnRound();
        x.setColumn(1, 1);
        x.setTempo(0, 9);
        Rolls.read(x, "t01;31:1");
        x.undo();
        x.save(0);
        x.restore(0);
        Check.due("no column was struck", 1, x.whyMissed(0));
        Check.due("ticks do not count", 9, x.tempoOf(0));
        x.setWeight(0, 19);
        Check.due("with a lighter bell", 0, x.whyMissed(0));
        x.setWeight(0, 20);
        Check.due("with a heavier one", 1, x.whyMissed(0));
    }

    private static void bound(Sentences s) {
        s.test("2 with it the weights of the bells that are heard in this column would be more than the bound (1 to "
                + "300; 120 at first), together.", () -> {
            PeggedBells x = Rolls.with(0b1000000011);
            Check.due("60, 54 and 6 with the first bound", 0b1000000011, x.inRound(0));
            x.setWeight(9, 7);
            Check.due("60, 54 and 7", 0b11, x.inRound(0));
            Check.due("the first bound", 120, x.setBound(121));
            Check.due("60, 54 and 7 with 121", 0b1000000011, x.inRound(0));
            x.setBound(60);
            Check.due("60 with 60", 1, x.inRound(0));
            x.setBound(59);
            Check.due("one that is missed takes no room", 0b10, x.inRound(0));
            x.setBound(61);
            Check.due("and the next ones neither", 1, x.inRound(0));
            x.setBound(67);
            Check.due("a lighter one behind it is heard", 0b1000000001, x.inRound(0));
            x.setBound(6);
            Check.due("all of them are too heavy", 0, x.inRound(0));
            x.setWeight(9, 1);
            x.setBound(1);
            Check.due("1 with 1", 512, x.inRound(0));
            atMost300();
            hammersTakeNoRoom();
        });
    }

    private static void atMost300() {
        PeggedBells x = Rolls.with(0b1000011111);
        for (int bell = 1; bell < 5; bell++) {
            x.setWeight(bell, 60);
        }
        x.setWeight(9, 1);
        x.setBound(300);
        Check.due("five of 60 with 300", 0, x.whyMissed(4));
        Check.due("and one of 1", 2, x.whyMissed(9));
        x.setBound(299);
        Check.due("five of 60 with 299", 2, x.whyMissed(4));
        Check.due("and one of 1 instead", 0, x.whyMissed(9));
        Check.refused("a bound of 0", Rolls.ARGUMENT, () -> x.setBound(0));
        Check.refused("a bound of 301", Rolls.ARGUMENT, () -> x.setBound(301));
    }

    private static void hammersTakeNoRoom() {
        PeggedBells x = Rolls.with(0b01, 0b11);
        x.setBound(60);
        x.crank(1);
        Check.due("its hammer is not back", 1, x.whyMissed(0));
        Check.due("so there is room for the other", 0, x.whyMissed(1));
    }

    private static void time(Sentences s) {
        s.test("The time is how many ticks the columns that were struck lasted, together.", () -> {
            PeggedBells x = new PeggedBells();
            Check.due("none", 0, x.time());
            x.crank(1);
            Check.due("one without pegs", 4, x.time());
            x.setTempo(0, 9);
            Check.due("what it lasted, it lasted", 4, x.time());
            x.crank(7);
            Check.due("up to the end of the bar", 4 + 7 * 9, x.time());
            x.crank(1);
            Check.due("and one more", 4 + 7 * 9 + 4, x.time());
            x.turnBack();
            x.crank(200);
            Check.due("round the drum", 71 + 6 * 168 + 8 * 9, x.time());
        });
    }

    private static void round(Sentences s) {
        s.test("What a round would be: 32 columns,", () -> {
            PeggedBells x = Rolls.with(513);
            x.setColumn(31, 1);
            Check.due("the column 31 is one of them", 1, x.inRound(31));
            Check.due("the column 0 comes once", 3, x.heardInRound(false));
            Check.due("told by columns", 3, x.heardInRound(true));
            Check.due("none is missed", 0, x.missedInRound());
            Check.due("the ticks", 32 * 4, x.ticksOfRound(false));
            Check.due("the silence", 30, x.longestSilence());
        });
        s.test("from the column 0 on,", () -> {
            PeggedBells x = Rolls.with(1, 1);
            for (int columns = 0; columns < 40; columns++) {
                Check.due("the column 0, after " + columns, 1, x.inRound(0));
                Check.due("the column 1, after " + columns, 0, x.inRound(1));
                x.crank(1);
            }
        });
        s.test("with all hammers back at its beginning.", () -> {
            PeggedBells x = Rolls.with(1);
            x.setColumn(31, 1);
            x.crank(32);
            Check.due("if it was struck now", 1, x.whyMissed(0));
            Check.due("in a round", 1, x.inRound(0));
            Check.due("once more", 1, x.inRound(0));
            Check.due("the hammer's own state stays", 1, x.whyMissed(0));
        });
    }
}
