/** The texts: what the document says of them ahead of its promises, and the promises 31 to 34. */
final class TextSentences {
    private TextSentences() {
    }

    static void tell(Sentences s) {
        s.in("Texts");
        grammar(s);
        fault(s);
        ahead(s);
        put31(s);
        putRefused31(s);
        others32to34(s);
    }

    private static void whole(String... texts) {
        for (String text : texts) {
            Check.due("the fault of " + text, -1, Rolls.faultOf(text));
        }
    }

    /** The last character of each cannot stand at its place, whatever comes behind it. */
    private static void endsWrong(String... texts) {
        for (String text : texts) {
            Check.due("the fault of " + text, text.length() - 1, Rolls.faultOf(text));
            Check.due("the fault of " + text + ", with more", text.length() - 1, Rolls.faultOf(text + ";."));
        }
    }

    private static void endsEarly(String... texts) {
        for (String text : texts) {
            Check.due("the fault of " + text, text.length(), Rolls.faultOf(text));
        }
    }

    private static void grammar(Sentences s) {
        s.test("The pad is a text of at most 60 characters, a roll:", () -> {
            PeggedBells x = new PeggedBells();
            for (int length = 1; length <= 60; length++) {
                Check.due("one more", length, x.put('.'));
            }
            Check.refused("the 61st", Rolls.STATE, () -> x.put('.'));
            Check.due("length", 60, x.padLength());
            PeggedBells y = new PeggedBells();
            Rolls.put(y, "2:" + "0123456789".repeat(5) + "01234567");
            Check.due("a roll of 60", 60, y.padLength());
            Check.due("has no fault", -1, y.fault());
            y.read();
            Check.due("and is read to its end", 0b1100000000, y.pegsIn(2));
        });
        s.test("text = part { \";\" part };", () -> {
            whole(".", ".;.", "0:0;0:0", "t11;t11;t11", ".2;0:0;t01;.", ";.".repeat(30).substring(1));
            endsWrong(";", ".;;", "0:1;;", "t01;;", ".2;;", ".,", ".2:", "0:1,", "0:1<", "t01<", ".2,", "t01,");
            endsEarly(".;", "0:0;", "t01;", ".9;", ".;.;", ";.".repeat(30).substring(1) + ";");
        });
        s.test("part = column \":\" bell { bell } | \"t\" bar tempo | \".\" [ times ]:", () -> {
            whole("0:0", "31:9", "7:0123456789", "7:9876543210", "t01", "t39", ".", ".2", ".9");
            endsWrong("x", ":", "T", ",", "0;", "0.", "0t", "10;", "0::", "0:;", "0:.", "0:t", "0:0:", "0:0t", "0:0.");
            endsWrong("tt", "t.", "t:", "t;", "t0t", "t0;", "t0:", "t0.", "t01t", "t01.", "t01:", "t010", "t011");
            endsWrong("..", ".t", ".:", ".2.", ".2t", ".2:", ".22", ".20", ".;x", "0:1;x", "~", "!");
            endsEarly("0", "31", "0:", "31:", "t", "t0");
        });
        s.test("pegs that are set in a column, or taken out, where one is", () -> {
            PeggedBells x = Rolls.with(0b1000000001);
            Rolls.read(x, "0:019");
            Check.due("some set, some taken out", 0b10, x.pegsIn(0));
            Rolls.read(x, "0:1");
            Check.due("the last one taken out", 0, x.pegsIn(0));
            Rolls.read(x, "31:0123456789");
            Check.due("all set", 1023, x.pegsIn(31));
            Rolls.read(x, "31:0123456789");
            Check.due("all taken out", 0, x.pegsIn(31));
            Rolls.read(x, "5:99");
            Check.due("set and taken out", 0, x.pegsIn(5));
            Rolls.read(x, "5:999;6:8;6:8;6:7");
            Check.due("set, taken out, and set", 512, x.pegsIn(5));
            Check.due("part by part", 128, x.pegsIn(6));
        });
        s.test("(a column 0 to 31 without leading zeros,", () -> {
            for (int column = 0; column < 32; column++) {
                PeggedBells x = new PeggedBells();
                Rolls.read(x, column + ":4");
                Check.due("the column " + column, 16, x.pegsIn(column));
                Check.due("no other one", 1, x.pegs());
            }
            for (int digit = 0; digit < 10; digit++) {
                endsWrong("0" + digit, ".;0" + digit, "4" + digit, "9" + digit, "31" + digit, "10" + digit);
            }
            for (int column = 32; column < 100; column++) {
                endsWrong("" + column);
            }
            // The neighbours of the digits, where one can stand.
            endsWrong("/", ":", "0/", "1/", "2/", "3/", "9/", "10/", "31/", "0;", "1;", "2;", "3;", "10;", "31;");
        });
        s.test("bells are digits 0 to 9),", () -> {
            for (int bell = 0; bell < 10; bell++) {
                PeggedBells x = new PeggedBells();
                Rolls.read(x, "31:" + bell);
                Check.due("the bell " + bell, 1 << bell, x.pegsIn(31));
            }
            endsWrong("0:/", "0::", "0:0/", "0:0:", "0:a", "0:9a", "10:/");
        });
        s.test("the tempo of a bar (a digit 0 to 3, and a digit 1 to 9),", () -> {
            for (int bar = 0; bar < 4; bar++) {
                for (int tempo = 1; tempo <= 9; tempo++) {
                    PeggedBells x = new PeggedBells();
                    Rolls.read(x, "t" + bar + tempo);
                    Check.due("t" + bar + tempo, tempo, x.tempoOf(bar));
                    Check.due("the bar behind it", 4, x.tempoOf((bar + 1) % 4));
                }
            }
            endsWrong("t4", "t5", "t9", "t/", "t00", "t30", "t0/", "t0:");
        });
        s.test("and columns that are struck (1, or as many as a digit 2 to 9 tells).", () -> {
            PeggedBells x = new PeggedBells();
            Rolls.read(x, ".");
            Check.due("1", 1, x.column());
            int columns = 1;
            for (int times = 2; times <= 9; times++) {
                Rolls.read(x, "." + times);
                columns += times;
                Check.due("" + times, columns % 32, x.column());
            }
            Check.due("the time of all", 4 * columns, x.time());
            endsWrong(".0", ".1", "./", ".:");
        });
    }

    private static void fault(Sentences s) {
        s.test("The fault is the index of the first character that cannot stand at its place when the text is read "
                + "from left to right", () -> {
            Check.due("the first character", 0, Rolls.faultOf("x"));
            Check.due("the first of two", 0, Rolls.faultOf("xx"));
            Check.due("in the first part", 1, Rolls.faultOf(".x;.x"));
            Check.due("in the second part", 4, Rolls.faultOf(".2;.x;x"));
            Check.due("the last character of all", 59, Rolls.faultOf(".;".repeat(29) + ".x"));
            Check.due("the first of all", 0, Rolls.faultOf(";" + ".;".repeat(29) + "."));
            Check.due("ahead of a text that ends too early", 2, Rolls.faultOf("0:x;t"));
            PeggedBells x = new PeggedBells();
            Rolls.put(x, "t0");
            Check.due("no character is wrong yet", 2, x.fault());
            x.put('0');
            Check.due("the one that is put is wrong", 2, x.fault());
            x.put('1');
            Check.due("it stays so", 2, x.fault());
        });
        s.test("(also of a digit by which a number would be too great);", () -> {
            endsWrong("32", "33", "39", "40", "99", "310", "100", "299", ".;32", "t01;32", "3:3;32");
            Check.due("with its colon", 1, Rolls.faultOf("32:0"));
            Check.due("three digits", 2, Rolls.faultOf("100:0"));
            endsWrong("t4", "t9", "t010", ".20", ".99");
        });
        s.test("if there is none and the text ends too early (also if it is empty), it is the length of the text.",
                () -> {
            Check.due("an empty one", 0, new PeggedBells().fault());
            endsEarly("0", "3", "9", "10", "31", "0:", "31:", "t", "t3", ".;", "0:1;", "t01;", ".2;");
            endsEarly(".;3", ".;t", ".;t1", ".;31:");
            Check.due("a full pad", 60, Rolls.faultOf(".;".repeat(29) + ".;"));
            Check.due("another full pad", 60, Rolls.faultOf(".;".repeat(28) + ".9;t"));
            PeggedBells x = new PeggedBells();
            Rolls.put(x, ".;");
            x.wipe();
            Check.due("one that is empty again", 0, x.fault());
        });
    }

    private static void ahead(Sentences s) {
        s.test("The constants: `NONE = -1`: There is nothing to tell.", () -> Check.due("NONE", -1, PeggedBells.NONE));
        s.test("Ahead of the calls `turnPeg`, `setColumn`, `setTempo`, `setWeight`, `setBound`, `turnRound`, `move`, "
                + "`raise`, `crank`, `turnBack`, `read` the interface says: ---- changes.",
                () -> Rolls.changes().forEach(Rolls::isChange));
        s.test("Ahead of the calls `pegsIn`, `pegs`, `tempoOf`, `weightOf`, `column`, `time`, `heardOf`, `heard`, "
                + "`missed`, `whyMissed` the interface says: ---- what there is; nothing changes.",
                () -> Rolls.changesNothing("what there is", x -> {
            x.pegsIn(0);
            x.pegs();
            x.tempoOf(3);
            x.weightOf(9);
            x.column();
            x.time();
            x.heardOf(9);
            x.heard(false);
            x.heard(true);
            x.missed();
            for (int bell = 0; bell < 10; bell++) {
                x.whyMissed(bell);
            }
        }));
        s.test("Ahead of the calls `inRound`, `heardInRound`, `ticksOfRound`, `missedInRound`, `busiest`, "
                + "`longestSilence`, `enoughBound`, `heaviestColumn` the interface says: ---- a round; nothing "
                + "changes.",
                () -> Rolls.changesNothing("a round", x -> {
            x.inRound(31);
            x.heardInRound(false);
            x.heardInRound(true);
            x.ticksOfRound(false);
            x.ticksOfRound(true);
            x.missedInRound();
            x.busiest();
            x.longestSilence();
            x.enoughBound();
            x.heaviestColumn();
        }));
        s.test("Ahead of the calls `put`, `wipe`, `padLength`, `fault` the interface says: ---- texts.",
                TextSentences::changeOnlyThePad);
        s.test("Ahead of the calls `undo`, `undoable`, `save`, `restore` the interface says: ---- undo, saving.",
                () -> Rolls.changesNothing("undo, saving", x -> {
            x.undoable();
            x.restore(1);
            x.save(1);
            x.undo();
        }));
    }

    private static void changeOnlyThePad() {
        Rolls.changesNothing("asking for the pad", x -> {
            x.padLength();
            x.fault();
        });
        Rolls.same("texts that are put and wiped", TextSentences::withoutTexts, () -> {
            PeggedBells x = withoutTexts();
            x.put('x');
            x.fault();
            x.padLength();
            x.put(Rolls.number("0:1;t09;"));
            x.wipe();
            return x;
        });
    }

    private static PeggedBells withoutTexts() {
        PeggedBells x = Rolls.with(513, 3, 7);
        x.setTempo(0, 9);
        x.save(1);
        x.crank(2);
        return x;
    }

    private static void put31(Sentences s) {
        s.in("Promise 31");
        s.test("Appends characters to the pad.", () -> {
            PeggedBells x = new PeggedBells();
            x.put(Rolls.number("0:9"));
            Check.due("at first", -1, x.fault());
            x.put(Rolls.number("8;"));
            Check.due("behind them", 5, x.fault());
            x.put('.');
            Check.due("and behind those", -1, x.fault());
            x.read();
            Check.due("what was put", 768, x.pegsIn(0));
            Check.due("all of it", 1, x.column());
            PeggedBells y = new PeggedBells();
            Rolls.put(y, ".".repeat(60));
            y.wipe();
            y.put(Rolls.number("1:0"));
            y.read();
            Check.due("to a pad that was wiped", 1, y.pegsIn(1));
        });
        s.test("They are given as a number: its lowest 8 bits are the last character, the next 8 bits the one before, "
                + "and so on;", () -> {
            PeggedBells x = new PeggedBells();
            x.put(0x31323A3430392E32L);
            Check.due("12:409.2 has its fault where the 7th character stands", 6, x.fault());
            x.wipe();
            x.put(0x31323A343B742E32L);
            Check.due("12:4;t.2 has its fault there, too", 6, x.fault());
            x.wipe();
            x.put(0x31323A343B743239L);
            x.read();
            Check.due("12:4;t29 sets a peg", 16, x.pegsIn(12));
            Check.due("and a tempo", 9, x.tempoOf(2));
            x.put(0x743137L);
            x.read();
            Check.due("t17 sets another", 7, x.tempoOf(1));
        });
        s.test("8 bits that are 0 mean that there are no more characters,", () -> {
            PeggedBells x = new PeggedBells();
            int length = 0;
            for (int count = 1; count <= 8; count++) {
                length += count;
                Check.due(count + " characters", length, x.put(Rolls.number("~!a0.;tT".substring(8 - count))));
            }
        });
        s.test("and everything above them has to be 0, too.", () -> {
            PeggedBells x = new PeggedBells();
            for (int zero = 0; zero < 7; zero++) {
                for (int bit = 8 * zero + 8; bit < 64; bit++) {
                    long below = Rolls.number(".......".substring(7 - zero));
                    long number = below | 1L << bit;
                    Check.refused("a bit " + bit + " above the character " + zero, Rolls.ARGUMENT, () -> x.put(number));
                }
            }
            Check.due("nothing is put", 0, x.padLength());
        });
        s.test("- `characters`: 1 to 8 characters", () -> {
            PeggedBells x = new PeggedBells();
            Check.due("one", 1, x.put('!'));
            Check.due("eight", 9, x.put(Rolls.number("~~~~~~~~")));
            Check.refused("none", Rolls.ARGUMENT, () -> x.put(0));
        });
        s.test("Returns the length of the pad then.", () -> {
            PeggedBells x = new PeggedBells();
            Check.due("one", 1, x.put('.'));
            Check.due("and eight", 9, x.put(Rolls.number(".;.;.;.;")));
            x.wipe();
            Check.due("after it was wiped", 2, x.put(Rolls.number("xx")));
            Rolls.put(x, "x".repeat(50));
            Check.due("up to a full pad", 60, x.put(Rolls.number("xxxxxxxx")));
        });
    }

    private static void putRefused31(Sentences s) {
        s.test("Throws `IllegalArgumentException` if there is no character,", () -> {
            PeggedBells x = new PeggedBells();
            Check.refused("put(0)", Rolls.ARGUMENT, () -> x.put(0));
            x.put('.');
            Check.refused("put(0) again", Rolls.ARGUMENT, () -> x.put(0));
            Check.due("nothing is put", 1, x.padLength());
        });
        s.test("a code is not 33 to 126,", () -> {
            for (int place = 0; place < 8; place++) {
                // Characters below the code and, in the second round, above it, too.
                for (int above = 0; above < 2; above++) {
                    long others = Rolls.number(above == 1 ? "........" : "........".substring(8 - place));
                    codesAt(place, others & ~(255L << 8 * place), above == 1 ? 8 : place + 1);
                }
            }
        });
        s.test("or a bit above 8 bits that are 0 is not 0", () -> {
            PeggedBells x = new PeggedBells();
            long[] wrong = {
                0x2E00L, 0x2E002EL, 0x2E00000000000000L, 0x2E0000000000002EL, 0x100L, 1L << 63, 1L << 63 | '.',
                0x002E2E2E2E002E2EL, 0x012E0000L | '.', 1L << 32, 1L << 32 | '.'};
            for (long characters : wrong) {
                Check.refused("put(" + characters + ")", Rolls.ARGUMENT, () -> x.put(characters));
            }
            Check.due("nothing is put", 0, x.padLength());
        });
        s.test("Throws `IllegalStateException` if the pad would be longer than 60", () -> {
            for (int count = 1; count <= 8; count++) {
                PeggedBells x = new PeggedBells();
                long characters = Rolls.number(".;.;.;.;".substring(8 - count));
                Rolls.put(x, "x".repeat(61 - count));
                Check.refused("to 61, by " + count, Rolls.STATE, () -> x.put(characters));
                Check.due("nothing is put", 61 - count, x.padLength());
                x.wipe();
                Rolls.put(x, "x".repeat(60 - count));
                Check.due("to 60, by " + count, 60, x.put(characters));
                Check.refused("to more than 60, by " + count, Rolls.STATE, () -> x.put(characters));
            }
        });
    }

    /** Each code from 1 to 255 at one place among others. */
    private static void codesAt(int place, long others, int count) {
        PeggedBells x = new PeggedBells();
        for (int code = 1; code < 256; code++) {
            long characters = others | (long) code << 8 * place;
            String what = "the code " + code + " at the place " + place + " of " + count;
            if (code < 33 || code > 126) {
                Check.refused(what, Rolls.ARGUMENT, () -> x.put(characters));
            } else {
                Check.due(what, count, x.put(characters));
                x.wipe();
            }
        }
    }

    private static void others32to34(Sentences s) {
        s.in("Promise 32");
        s.test("Empties the pad, and returns the length that it had.", () -> {
            PeggedBells x = new PeggedBells();
            Check.due("an empty one", 0, x.wipe());
            Rolls.put(x, ".".repeat(60));
            Check.due("a full one", 60, x.wipe());
            Check.due("its length then", 0, x.padLength());
            Check.due("once more", 0, x.wipe());
            x.put('.');
            Check.due("one character", 1, x.wipe());
            Check.refused("nothing to read", Rolls.ARGUMENT, x::read);
        });
        s.in("Promise 33");
        s.test("Returns the length of the pad.", () -> {
            PeggedBells x = new PeggedBells();
            Check.due("an empty one", 0, x.padLength());
            for (int length = 1; length <= 60; length++) {
                x.put('.');
                Check.due("a longer one", length, x.padLength());
            }
            Check.refused("no room", Rolls.STATE, () -> x.put('.'));
            Check.due("a full one", 60, x.padLength());
            x.wipe();
            Check.due("one that is wiped", 0, x.padLength());
            Rolls.read(x, ".;.");
            Check.due("one that is read", 0, x.padLength());
        });
        s.in("Promise 34");
        s.test("Returns the fault of the pad, NONE if there is none.", () -> {
            PeggedBells x = new PeggedBells();
            Check.due("an empty one", 0, x.fault());
            x.put('.');
            Check.due("none", -1, x.fault());
            Check.due("asked twice", -1, x.fault());
            x.put(';');
            Check.due("it ends too early", 2, x.fault());
            x.put('x');
            Check.due("a wrong character", 2, x.fault());
            x.wipe();
            Check.due("it is empty again", 0, x.fault());
            Rolls.put(x, ".;".repeat(29) + ".2");
            Check.due("none in a full one", -1, x.fault());
        });
    }
}
