/** The promises 13 to 30: what there is, and what a round would be. */
final class QuestionSentences {
    private static final String NO_COLUMN = "Throws `IndexOutOfBoundsException` if there is no such column";
    private static final String NO_BAR = "Throws `IndexOutOfBoundsException` if there is no such bar";
    private static final String NO_BELL = "Throws `IndexOutOfBoundsException` if there is no such bell";

    private QuestionSentences() {
    }

    static void tell(Sentences s) {
        whatThereIs13to16(s);
        soFar17to21(s);
        whyMissed22(s);
        round23to26(s);
        busiest27(s);
        longestSilence28(s);
        enoughBound29(s);
        heaviestColumn30(s);
    }

    private static void whatThereIs13to16(Sentences s) {
        s.in("Promise 13");
        s.test("Returns the pegs of a column, as a set of bells.", () -> {
            PeggedBells x = Rolls.with(1023, 513);
            x.turnPeg(31, 9);
            Check.due("all", 1023, x.pegsIn(0));
            Check.due("the first and the last bell", 513, x.pegsIn(1));
            Check.due("none", 0, x.pegsIn(30));
            Check.due("the last column", 512, x.pegsIn(31));
            x.crank(200);
            Check.due("pegs stay when they strike", 1023, x.pegsIn(0));
        });
        s.test(NO_COLUMN, () -> {
            PeggedBells x = new PeggedBells();
            for (int none : Rolls.NO_COLUMNS) {
                Check.refused("column " + none, Rolls.INDEX, () -> x.pegsIn(none));
            }
        });
        s.in("Promise 14");
        s.test("Returns how many pegs there are.", () -> {
            PeggedBells x = new PeggedBells();
            Check.due("none", 0, x.pegs());
            for (int column = 0; column < 32; column++) {
                x.setColumn(column, 1023);
                Check.due("up to the column " + column, 10 * column + 10, x.pegs());
            }
            x.turnPeg(31, 9);
            Check.due("all but one", 319, x.pegs());
        });
        s.in("Promise 15");
        s.test("Returns the tempo of a bar.", () -> {
            PeggedBells x = new PeggedBells();
            for (int bar = 0; bar < 4; bar++) {
                Check.due("bar " + bar + " at first", 4, x.tempoOf(bar));
                x.setTempo(bar, bar == 3 ? 9 : bar + 1);
            }
            Check.due("bar 0", 1, x.tempoOf(0));
            Check.due("bar 1", 2, x.tempoOf(1));
            Check.due("bar 2", 3, x.tempoOf(2));
            Check.due("bar 3", 9, x.tempoOf(3));
        });
        s.test(NO_BAR, () -> {
            PeggedBells x = new PeggedBells();
            for (int none : Rolls.NO_BARS) {
                Check.refused("bar " + none, Rolls.INDEX, () -> x.tempoOf(none));
            }
        });
        s.in("Promise 16");
        s.test("Returns the weight of a bell.", () -> {
            PeggedBells x = new PeggedBells();
            for (int bell = 0; bell < 10; bell++) {
                Check.due("bell " + bell + " at first", 60 - 6 * bell, x.weightOf(bell));
                x.setWeight(bell, bell == 0 ? 1 : 50 + bell);
            }
            for (int bell = 0; bell < 10; bell++) {
                Check.due("bell " + bell, bell == 0 ? 1 : 50 + bell, x.weightOf(bell));
            }
            x.setWeight(9, 60);
            Check.due("the most", 60, x.weightOf(9));
        });
        s.test(NO_BELL, () -> {
            PeggedBells x = new PeggedBells();
            for (int none : Rolls.NO_BELLS) {
                Check.refused("bell " + none, Rolls.INDEX, () -> x.weightOf(none));
            }
        });
    }

    private static void soFar17to21(Sentences s) {
        s.in("Promise 17");
        s.test("Returns the column at hand.", () -> {
            PeggedBells x = new PeggedBells();
            for (int columns = 0; columns < 65; columns++) {
                Check.due("after " + columns, columns % 32, x.column());
                x.crank(1);
            }
        });
        s.in("Promise 18");
        s.test("Returns the ticks so far.", () -> {
            PeggedBells x = new PeggedBells();
            Check.due("none", 0, x.time());
            x.setTempo(0, 1);
            x.setTempo(3, 9);
            x.crank(31);
            Check.due("all but one", 8 + 32 + 32 + 63, x.time());
            x.crank(1);
            Check.due("a round", 144, x.time());
            x.crank(1);
            Check.due("and one more", 145, x.time());
        });
        s.in("Promise 19");
        s.test("Returns how often a bell was heard so far.", () -> {
            PeggedBells x = Rolls.with(0b1000000001, 0b1000000001);
            for (int bell = 0; bell < 10; bell++) {
                Check.due("bell " + bell + " at first", 0, x.heardOf(bell));
            }
            x.crank(32);
            Check.due("bell 0, which is missed once", 1, x.heardOf(0));
            Check.due("bell 9", 2, x.heardOf(9));
            Check.due("bell 1, which has no peg", 0, x.heardOf(1));
            x.setColumn(0, 0);
            x.raise();
            Check.due("bell 0, after its pegs are gone", 1, x.heardOf(0));
            Check.due("bell 9, after its pegs are gone", 2, x.heardOf(9));
        });
        s.test(NO_BELL, () -> {
            PeggedBells x = new PeggedBells();
            for (int none : Rolls.NO_BELLS) {
                Check.refused("bell " + none, Rolls.INDEX, () -> x.heardOf(none));
            }
        });
        s.in("Promise 20");
        s.test("Returns how often bells were heard so far.", () -> {
            PeggedBells x = Rolls.with(0b1000000001, 0b1000000001);
            Check.due("none", 0, x.heard(false));
            x.crank(1);
            Check.due("two", 2, x.heard(false));
            x.crank(1);
            Check.due("and one, as the other is missed", 3, x.heard(false));
            x.setColumn(0, 0);
            Check.due("pegs that are gone then", 3, x.heard(false));
            x.crank(200);
            Check.due("what was heard is added", 3 + 12, x.heard(false));
        });
        s.test("- `byBells`: false: told as it was; true: told by bells (the same)", () -> {
            PeggedBells x = Rolls.with(1023, 1023, 513, 0, 1023);
            x.setColumn(31, 1022);
            Check.due("none, by bells", 0, x.heard(true));
            for (int columns = 0; columns < 64; columns++) {
                x.crank(1);
                Check.due("after " + columns, x.heard(false), x.heard(true));
            }
            int sum = 0;
            for (int bell = 0; bell < 10; bell++) {
                sum += x.heardOf(bell);
            }
            Check.due("of all bells together", sum, x.heard(true));
            x.undo();
            Check.due("after undo", x.heard(false), x.heard(true));
        });
        s.in("Promise 21");
        s.test("Returns how often bells were missed so far.", () -> {
            PeggedBells x = Rolls.with(0b0000000111, 0b11);
            Check.due("none", 0, x.missed());
            x.crank(1);
            Check.due("one for the bound", 1, x.missed());
            x.crank(1);
            Check.due("two for their hammers", 3, x.missed());
            x.crank(30);
            Check.due("columns without pegs", 3, x.missed());
            x.setColumn(0, 0);
            Check.due("pegs that are gone then", 3, x.missed());
            x.turnBack();
            x.setBound(1);
            x.crank(2);
            Check.due("two more for the bound", 5, x.missed());
        });
    }

    private static void whyMissed22(Sentences s) {
        s.in("Promise 22");
        s.test("Tells why a bell would be missed, if the column at hand was struck.", () -> {
            PeggedBells x = Rolls.with(0b111, 0b1000000001);
            x.setColumn(31, 0b10);
            Check.due("in the first column", 2, x.whyMissed(2));
            Check.due("asked twice", 2, x.whyMissed(2));
            x.crank(1);
            Check.due("in the next one", 1, x.whyMissed(0));
            Check.due("a bell that has a peg only in others", 3, x.whyMissed(2));
            Check.due("a light one", 0, x.whyMissed(9));
            x.crank(30);
            Check.due("in the last one", 0, x.whyMissed(1));
            x.crank(1);
            Check.due("over the end", 1, x.whyMissed(1));
        });
        s.test("Returns 0 if it would be heard;", () -> {
            PeggedBells x = Rolls.with(0b1000000011);
            Check.due("the first of three", 0, x.whyMissed(0));
            Check.due("the last of three, just within the bound", 0, x.whyMissed(9));
            Check.due("and so it is", 3, x.crank(1));
        });
        s.test("3 if it has no peg in it;", () -> {
            PeggedBells x = new PeggedBells();
            Check.due("without pegs", 3, x.whyMissed(0));
            x.setColumn(0, 511);
            Check.due("the only one without", 3, x.whyMissed(9));
            x.crank(1);
            Check.due("its hammer is not back, either", 3, x.whyMissed(0));
            x.setBound(1);
            Check.due("it is too heavy, too", 3, x.whyMissed(0));
        });
        s.test("otherwise the reason, 1 or 2.", () -> {
            PeggedBells x = Rolls.with(0b1, 0b11, 0b10);
            x.crank(1);
            Check.due("its hammer", 1, x.whyMissed(0));
            x.setBound(53);
            Check.due("the bound", 2, x.whyMissed(1));
            Check.due("both", 1, x.whyMissed(0));
            x.setBound(54);
            Check.due("none", 0, x.whyMissed(1));
        });
        s.test(NO_BELL, () -> {
            PeggedBells x = Rolls.with(1023);
            for (int none : Rolls.NO_BELLS) {
                Check.refused("bell " + none, Rolls.INDEX, () -> x.whyMissed(none));
            }
        });
    }

    private static void round23to26(Sentences s) {
        s.in("Promise 23");
        s.test("Returns the bells that would be heard in a column of a round, as a set.", () -> {
            PeggedBells x = Rolls.with(0b1000000111, 0b11, 0, 0b1111, 0b11);
            x.setColumn(31, 0b11);
            int[] heard = {0b1000000011, 0, 0, 0b0110, 0b1};
            for (int column = 0; column < heard.length; column++) {
                Check.due("column " + column, heard[column], x.inRound(column));
            }
            Check.due("the last column", 0b11, x.inRound(31));
            Check.due("one without pegs", 0, x.inRound(30));
            x.crank(3);
            Check.due("wherever the drum stands", 0b1000000011, x.inRound(0));
        });
        s.test(NO_COLUMN, () -> {
            PeggedBells x = new PeggedBells();
            for (int none : Rolls.NO_COLUMNS) {
                Check.refused("column " + none, Rolls.INDEX, () -> x.inRound(none));
            }
        });
        s.in("Promise 24");
        s.test("Returns how often bells would be heard in a round.", () -> {
            PeggedBells x = new PeggedBells();
            Check.due("none", 0, x.heardInRound(false));
            x.setColumn(31, 512);
            Check.due("one in the last column", 1, x.heardInRound(false));
            x.setColumn(0, 0b1000000111);
            x.setColumn(1, 1);
            Check.due("three more, and two that are missed", 4, x.heardInRound(false));
            for (int column = 0; column < 32; column++) {
                x.setColumn(column, 1023);
            }
            for (int bell = 0; bell < 10; bell++) {
                x.setWeight(bell, 1);
            }
            Check.due("all there can be", 320, x.heardInRound(false));
            x.crank(17);
            Check.due("wherever the drum stands", 320, x.heardInRound(false));
        });
        s.test("- `byColumns`: false: told as it would come; true: told by what would be heard in each column (the "
                + "same)", () -> {
            PeggedBells x = new PeggedBells();
            Check.due("none", 0, x.heardInRound(true));
            for (int column = 31; column >= 0; column--) {
                x.setColumn(column, 1023 - 37 * (column % 11) % 1024);
                int sum = 0;
                for (int told = column; told < 32 && column > 25; told++) {
                    sum += Integer.bitCount(x.inRound(told));
                }
                Check.due("from the column " + column, x.heardInRound(false), x.heardInRound(true));
                if (column > 25) {
                    Check.due("what is told of each, from " + column, sum, x.heardInRound(true));
                }
            }
        });
        s.in("Promise 25");
        s.test("Returns how many ticks a round lasts.", () -> {
            PeggedBells x = new PeggedBells();
            Check.due("at first", 128, x.ticksOfRound(false));
            for (int bar = 0; bar < 4; bar++) {
                x.setTempo(bar, 1);
            }
            Check.due("the least", 32, x.ticksOfRound(false));
            for (int bar = 0; bar < 4; bar++) {
                x.setTempo(bar, 9);
                Check.due("up to the bar " + bar, 32 + 64 * (bar + 1), x.ticksOfRound(false));
            }
            x.crank(9);
            Check.due("wherever the drum stands", 288, x.ticksOfRound(false));
        });
        s.test("- `byBars`: false: told column by column; true: told by bars (the same)", () -> {
            PeggedBells x = new PeggedBells();
            Check.due("at first", 128, x.ticksOfRound(true));
            for (int bar = 0; bar < 4; bar++) {
                for (int tempo = 1; tempo <= 9; tempo++) {
                    x.setTempo(bar, tempo);
                    Check.due("bar " + bar + ", tempo " + tempo, x.ticksOfRound(false), x.ticksOfRound(true));
                }
            }
            Check.due("the most", 288, x.ticksOfRound(true));
        });
        s.in("Promise 26");
        s.test("Returns how many pegs would be missed in a round.", () -> {
            PeggedBells x = new PeggedBells();
            Check.due("none", 0, x.missedInRound());
            x.setColumn(0, 0b111);
            Check.due("one for the bound", 1, x.missedInRound());
            x.setColumn(1, 0b11);
            Check.due("and two for their hammers", 3, x.missedInRound());
            x.setColumn(31, 0b1001111);
            Check.due("and three in the last column", 6, x.missedInRound());
            x.crank(1);
            Check.due("wherever the drum stands", 6, x.missedInRound());
            x.setBound(1);
            Check.due("all", 10, x.missedInRound());
            Check.due("what was missed is another thing", 1, x.missed());
        });
    }

    private static void busiest27(Sentences s) {
        s.in("Promise 27");
        s.test("Returns the bell that would be heard the most in a round;", () -> {
            PeggedBells x = Rolls.with(1, 512, 512);
            Check.due("the last bell", 9, x.busiest());
            x.setColumn(31, 1);
            x.setColumn(15, 1);
            Check.due("the first bell", 0, x.busiest());
            x.setColumn(14, 1);
            x.setColumn(3, 512);
            x.setColumn(4, 512);
            Check.due("what is missed does not count", 9, x.busiest());
            PeggedBells y = new PeggedBells();
            y.turnPeg(31, 5);
            Check.due("in the last column", 5, y.busiest());
            y.turnPeg(30, 4);
            y.turnPeg(31, 6);
            y.turnPeg(29, 6);
            Check.due("twice, as it is heard in the last column, too", 6, y.busiest());
        });
        s.test("of several the lowest;", () -> {
            PeggedBells x = new PeggedBells();
            x.turnPeg(0, 9);
            Check.due("one", 9, x.busiest());
            x.turnPeg(31, 8);
            Check.due("the lower one behind it", 8, x.busiest());
            x.turnPeg(16, 0);
            Check.due("the bell 0", 0, x.busiest());
            x.turnPeg(20, 0);
            x.turnPeg(21, 5);
            x.turnPeg(25, 5);
            Check.due("of two that are heard twice", 0, x.busiest());
        });
        s.test("NONE if none would be.", () -> {
            PeggedBells x = new PeggedBells();
            Check.due("no pegs", -1, x.busiest());
            x.setColumn(3, 1023);
            x.setBound(5);
            Check.due("all are missed", -1, x.busiest());
            x.setBound(6);
            Check.due("one is heard", 9, x.busiest());
        });
    }

    private static void longestSilence28(Sentences s) {
        s.in("Promise 28");
        s.test("Returns the most columns one behind the other,", () -> {
            PeggedBells x = new PeggedBells();
            for (int column = 0; column < 32; column++) {
                x.turnPeg(column, 9);
            }
            Check.due("none", 0, x.longestSilence());
            x.turnPeg(0, 9);
            Check.due("one, the first", 1, x.longestSilence());
            x.turnPeg(20, 9);
            x.turnPeg(22, 9);
            Check.due("some that are not one behind the other", 1, x.longestSilence());
            x.turnPeg(10, 9);
            x.turnPeg(11, 9);
            Check.due("two in the middle", 2, x.longestSilence());
            x.turnPeg(29, 9);
            x.turnPeg(30, 9);
            x.turnPeg(31, 9);
            Check.due("three at the end", 3, x.longestSilence());
            x.turnPeg(1, 9);
            x.turnPeg(2, 9);
            x.turnPeg(3, 9);
            Check.due("four at the beginning", 4, x.longestSilence());
        });
        s.test("within a round (not over its end),", () -> {
            PeggedBells x = new PeggedBells();
            Check.due("all", 32, x.longestSilence());
            x.turnPeg(16, 9);
            Check.due("ahead of one", 16, x.longestSilence());
            x.turnPeg(16, 9);
            x.turnPeg(15, 9);
            Check.due("behind one", 16, x.longestSilence());
            x.turnPeg(21, 9);
            x.turnPeg(10, 9);
            Check.due("ten at each end", 10, x.longestSilence());
            x.turnPeg(15, 9);
            Check.due("the silence between them", 10, x.longestSilence());
            x.crank(30);
            Check.due("wherever the drum stands", 10, x.longestSilence());
        });
        s.test("in which no bell would be heard.", () -> {
            PeggedBells x = new PeggedBells();
            for (int column = 0; column < 32; column++) {
                x.turnPeg(column, 0);
            }
            Check.due("between two strikes of a heavy bell", 3, x.longestSilence());
            x.setWeight(0, 59);
            Check.due("of a lighter one", 2, x.longestSilence());
            x.setBound(58);
            Check.due("of one that is too heavy", 32, x.longestSilence());
            x.turnPeg(7, 9);
            Check.due("one that is heard beside it", 24, x.longestSilence());
        });
    }

    private static void enoughBound29(Sentences s) {
        s.in("Promise 29");
        s.test("Returns the least bound, 1 to 300,", () -> {
            PeggedBells x = new PeggedBells();
            Check.due("no pegs", 1, x.enoughBound());
            x.turnPeg(31, 9);
            Check.due("one of 6", 6, x.enoughBound());
            x.setWeight(9, 1);
            Check.due("one of 1", 1, x.enoughBound());
            x.setWeight(9, 2);
            Check.due("one of 2", 2, x.enoughBound());
            for (int bell = 0; bell < 5; bell++) {
                x.setWeight(bell, 60);
            }
            x.setColumn(5, 0b11111);
            Check.due("300", 300, x.enoughBound());
            x.setWeight(4, 59);
            Check.due("299", 299, x.enoughBound());
        });
        s.test("with which no bell would be missed in a round for the reason 2;", () -> {
            PeggedBells x = Rolls.with(0b11, 0b111, 0, 0b100);
            Check.due("missed for the hammer only, or heard", 114, x.enoughBound());
            x.setBound(113);
            Check.due("whatever the bound is", 114, x.enoughBound());
            Check.due("with one less", 2, x.whyMissed(1));
            x.setBound(114);
            Check.due("with it", 0, x.whyMissed(1));
            x.setColumn(31, 0b111);
            Check.due("the last column", 162, x.enoughBound());
            x.setBound(162);
            Check.due("with it, there", 0b111, x.inRound(31));
            x.setBound(161);
            Check.due("with one less, there", 0b011, x.inRound(31));
            x.crank(31);
            Check.due("wherever the drum stands", 162, x.enoughBound());
        });
        s.test("NONE if there is none.", () -> {
            PeggedBells x = Rolls.with(0b1000011111);
            for (int bell = 0; bell < 5; bell++) {
                x.setWeight(bell, 60);
            }
            x.setWeight(9, 1);
            Check.due("301", -1, x.enoughBound());
            x.turnPeg(0, 9);
            Check.due("300", 300, x.enoughBound());
            x.setColumn(1, 1023);
            Check.due("all bells in a column, but some hammers are not back", 300, x.enoughBound());
            x.setColumn(31, 1023);
            Check.due("all bells in a column, and all hammers are back", -1, x.enoughBound());
        });
    }

    private static void heaviestColumn30(Sentences s) {
        s.in("Promise 30");
        s.test("Returns the column of a round in which the weights of the bells that would be heard are the most;",
                () -> {
            PeggedBells x = new PeggedBells();
            x.turnPeg(31, 9);
            Check.due("the last column", 31, x.heaviestColumn());
            x.turnPeg(0, 8);
            Check.due("the first column", 0, x.heaviestColumn());
            x.setColumn(5, 0b1010000000);
            Check.due("two together", 5, x.heaviestColumn());
            x.setColumn(6, 0b1110000000);
            Check.due("three together", 6, x.heaviestColumn());
            x.setColumn(10, 1);
            x.setColumn(11, 0b11);
            Check.due("one that is missed for its hammer weighs nothing", 10, x.heaviestColumn());
            x.setColumn(20, 0b1100000000);
            x.setBound(59);
            Check.due("one that is missed for the bound neither", 11, x.heaviestColumn());
            x.crank(15);
            Check.due("wherever the drum stands", 11, x.heaviestColumn());
        });
        s.test("of several the first;", () -> {
            PeggedBells x = new PeggedBells();
            x.turnPeg(31, 5);
            Check.due("one", 31, x.heaviestColumn());
            x.turnPeg(16, 5);
            Check.due("of two", 16, x.heaviestColumn());
            x.setColumn(15, 0b1001000000);
            Check.due("of 24 and 6 together, and 30", 15, x.heaviestColumn());
            x.turnPeg(0, 5);
            Check.due("the column 0", 0, x.heaviestColumn());
        });
        s.test("NONE if none would be heard.", () -> {
            PeggedBells x = new PeggedBells();
            Check.due("no pegs", -1, x.heaviestColumn());
            x.setColumn(3, 1023);
            x.setBound(5);
            Check.due("all are missed", -1, x.heaviestColumn());
            x.setWeight(9, 1);
            Check.due("one of 1 is heard", 3, x.heaviestColumn());
        });
    }
}
