/**
 * The boundaries that the document's Terms name, a test for each sentence: the last that is taken and the first that
 * is not, at both ends. What a call must leave as it was is looked at by Runs after every line.
 */
public final class TermsBoundariesTest {
    private static final String FURNISHED = Station.FURNISHED;
    private static final String[] GOES = {"0", "134567", "24567", "34567", "4567", "567", "67", "7"};

    public static void main(String[] args) {
        cutTruth();
        cutByte();
        cutChar();
        cutShort();
        cutInt();
        cutLong();
        cutFloat();
        cutDouble();
        cutToTheKindItIsGivenAs();
        noFloats();
        noDoubles();
        noNumbersAreOfTwoKindsOnly();
        for (int from = 0; from < GOES.length; from++) {
            goesFor(from);
        }
        widenedWithoutLoss();
        widenedToTheNearestFloat();
        widenedToTheNearestDouble();
        widenedFloat();
        fortyMarks();
        marksAndBuoys();
        nothingAtFirst();
        cellsAtFirst();
        onMoreThanOneShelf();
        readCauses();
        writeCauses();
        countCauses();
        takeCauses();
        whatIsTaken();
        giveIntoLogCauses();
        giveIntoOtherRowsCauses();
        whatFits();
        rowsWithoutCells();
        outsideAheadOfCauses();
        outsideAheadOfFull();
        Due.end();
    }

    /** Pairs of what is given and what it is cut to, by hold and by write; the kind's log lies on its shelf. */
    private static void cuts(String sentence, int kind, String... pairs) {
        StringBuilder lines = new StringBuilder();
        for (String pair : pairs) {
            String[] words = pair.split(" ");
            lines.append("hold(" + kind + ", " + words[0] + ") = 1\n");
            lines.append("held() = " + kind + "\n");
            lines.append("weight() = " + words[1] + "\n");
            lines.append("write(" + kind + ", 1, " + kind + ", " + words[0] + ") = 0\n");
            lines.append("read(" + kind + ", 1, " + kind + ") = 0\n");
            lines.append("seen() = " + words[1] + "\n");
        }
        Runs.runAfter("Promises 8 and 11, BITS: '" + sentence + "', " + kind, FURNISHED, lines.toString());
    }

    private static void cutTruth() {
        cuts("Given BITS are cut to the kind's lowest ones (TRUTH: the lowest)", 0,
                "0 0", "1 1", "2 0", "3 1", "-1 1", "-2 0", "LONGMAX 1", "LONGMIN 0", "0x100000001 1", "0x100000000 0");
    }

    private static void cutByte() {
        cuts("Given BITS are cut to the kind's lowest ones", 1, "127 127", "128 -128", "-128 -128", "-129 127",
                "255 -1", "256 0", "-256 0", "LONGMAX -1", "LONGMIN 0", "0x100 0");
    }

    private static void cutChar() {
        cuts("Given BITS are cut to the kind's lowest ones .. CHAR from 0 on", 2, "0 0", "-1 65535", "32767 32767",
                "32768 32768", "65535 65535", "65536 0", "-65536 0", "-65537 65535", "LONGMAX 65535", "LONGMIN 0");
    }

    private static void cutShort() {
        cuts("Given BITS are cut to the kind's lowest ones", 3, "32767 32767", "32768 -32768", "-32768 -32768",
                "-32769 32767", "65535 -1", "65536 0", "LONGMAX -1", "LONGMIN 0");
    }

    private static void cutInt() {
        cuts("Given BITS are cut to the kind's lowest ones", 4, "MAX MAX", "2147483648 MIN", "MIN MIN",
                "-2147483649 MAX", "4294967295 -1", "4294967296 0", "LONGMAX -1", "LONGMIN 0");
    }

    private static void cutLong() {
        cuts("Given BITS are cut to the kind's lowest ones", 5, "LONGMAX LONGMAX", "LONGMIN LONGMIN", "-1 -1",
                "2147483648 2147483648", "-2147483649 -2147483649");
    }

    private static void cutFloat() {
        cuts("FLOAT and DOUBLE by those of IEEE (of a FLOAT as an int)", 6, "0x3f800000 1065353216",
                "0x7f7fffff 2139095039", "0x80000000 MIN", "MIN MIN", "0xffffffff80000000 MIN", "0x100000000 0",
                "0xbf800000 -1082130432", "0x7ff8000000000000 0", "0x7fc000003f800000 1065353216", "LONGMIN 0");
    }

    private static void cutDouble() {
        cuts("FLOAT and DOUBLE by those of IEEE (of a FLOAT as an int)", 7, "LONGMIN LONGMIN", "0 0", "1 1",
                "0x7fc00000 2143289344", "0x7fefffffffffffff 9218868437227405311",
                "0xffefffffffffffff -4503599627370497");
    }

    private static void cutToTheKindItIsGivenAs() {
        Runs.runAfter("Promise 8, BITS: 'Given BITS are cut to the kind's lowest ones', not the cell's", FURNISHED, """
                write(5, 0, 1, 128) = 0
                read(5, 0, 5) = 0
                seen() = -128
                write(5, 0, 1, 127) = 0
                read(5, 0, 5) = 0
                seen() = 127
                write(5, 1, 2, 65536) = 0
                read(5, 1, 5) = 0
                seen() = 0
                write(5, 1, 2, -1) = 0
                read(5, 1, 5) = 0
                seen() = 65535
                write(5, 2, 4, 0x80000000) = 0
                read(5, 2, 5) = 0
                seen() = MIN
                write(3, 0, 1, 0x7f80) = 0
                read(3, 0, 3) = 0
                seen() = -128
                """);
    }

    private static void noFloats() {
        String taken = Runs.each("write(6, 0, 6, {}) = 0\nhold(6, {}) = 1", "0", "0x7f7fffff", "0x7f800000",
                "0x80000000", "0xff7fffff", "0xff800000", "0xffffffffff800000", "0x17f800000", "0x7f80000100000000");
        String refused = Runs.each("write(6, 0, 6, {}) = OUTSIDE\nhold(6, {}) = OUTSIDE", "0x7f800001", "0x7fc00000",
                "0x7fffffff", "0xff800001", "0xffc00000", "0xffffffff", "-1", "0xffffffff7f800001", "0x17f800001",
                "LONGMAX");
        Runs.runAfter("Promises 8 and 11: 'No numbers (NaN) are not taken', FLOAT", FURNISHED, taken, refused, """
                held() = 6
                weight() = 0
                read(6, 0, 6) = 0
                seen() = 0
                """);
    }

    private static void noDoubles() {
        String taken = Runs.each("write(7, 0, 7, {}) = 0\nhold(7, {}) = 1", "0", "0x7fefffffffffffff",
                "0x7ff0000000000000", "0xffefffffffffffff", "0xfff0000000000000", "LONGMIN", "0x7f800001");
        String refused = Runs.each("write(7, 0, 7, {}) = OUTSIDE\nhold(7, {}) = OUTSIDE", "0x7ff0000000000001",
                "0x7ff0000100000000", "0x7ff8000000000000", "LONGMAX", "0xfff0000000000001", "0xfff8000000000000", "-1");
        Runs.runAfter("Promises 8 and 11: 'No numbers (NaN) are not taken', DOUBLE", FURNISHED, taken, refused, """
                held() = 7
                weight() = 0x7f800001
                read(7, 0, 7) = 0
                seen() = 0x7f800001
                """);
    }

    private static void noNumbersAreOfTwoKindsOnly() {
        Runs.runAfter("Promises 8 and 11: 'No numbers (NaN) are not taken', whole ones are numbers", FURNISHED, """
                hold(4, 0x7fc00000) = 1
                weight() = 0x7fc00000
                hold(5, 0x7ff8000000000000) = 1
                weight() = 0x7ff8000000000000
                write(4, 0, 4, 0x7fc00000) = 0
                read(4, 0, 4) = 0
                seen() = 0x7fc00000
                write(5, 0, 5, -1) = 0
                read(5, 0, 5) = 0
                seen() = -1
                write(7, 0, 5, 0x7ff8000000000000) = 0
                write(6, 0, 4, 0x7fc00000) = 0
                hold(2, -1) = 1
                """);
    }

    private static void goesFor(int from) {
        StringBuilder lines = new StringBuilder();
        for (int to = 0; to < GOES.length; to++) {
            boolean goes = GOES[from].indexOf((char) ('0' + to)) >= 0;
            String due = goes ? "0" : "WRONG";
            lines.append("read(" + from + ", 0, " + to + ") = " + due + "\n");
            lines.append("take(" + from + ", 0) = 0\n");
            lines.append("write(" + to + ", 1, " + from + ", 1) = " + due + "\n");
            lines.append("give(" + to + ", 2) = " + due + "\n");
            lines.append("carry(" + from + ", 0, " + to + ", 0, 1) = " + (goes ? 1 : 0) + "\n");
            lines.append("ended() = " + (goes ? "0" : "WRONG-100") + "\n");
        }
        Runs.runAfter("Promises 6, 8, 10 and 16: 'A number of one kind GOES FOR its own, and is WIDENED .. Nothing else"
                + " goes', from " + from, FURNISHED, lines.toString());
    }

    /** Triples of kind, bits, and the bits they are as of the other kind: by read, by write, by give, by carry. */
    private static void widens(String sentence, int to, String... triples) {
        for (String triple : triples) {
            String[] words = triple.split(" ");
            String from = words[0];
            Runs.runAfter("Promises 6, 8, 10 and 16: '" + sentence + "', " + triple + " to " + to, FURNISHED,
                    "write(" + to + ", 0, " + from + ", " + words[1] + ") = 0",
                    "read(" + to + ", 0, " + to + ") = 0",
                    "seen() = " + words[2],
                    "write(" + from + ", 1, " + from + ", " + words[1] + ") = 0",
                    "read(" + from + ", 1, " + to + ") = 0",
                    "seen() = " + words[2],
                    "take(" + from + ", 1) = 0",
                    "give(" + to + ", 1) = 0",
                    "take(" + to + ", 1) = 0",
                    "weight() = " + words[2],
                    "carry(" + from + ", 1, " + to + ", 2, 1) = 1",
                    "take(" + to + ", 2) = 0",
                    "held() = " + to,
                    "weight() = " + words[2]);
        }
    }

    private static void widenedWithoutLoss() {
        widens("is WIDENED (to the nearest)", 3, "1 -128 -128", "1 127 127");
        widens("is WIDENED (to the nearest)", 4, "1 -128 -128", "2 65535 65535", "3 -32768 -32768", "3 32767 32767");
        widens("is WIDENED (to the nearest)", 5, "1 -128 -128", "2 65535 65535", "3 -32768 -32768", "4 MIN MIN",
                "4 MAX MAX");
    }

    private static void widenedToTheNearestFloat() {
        widens("is WIDENED (to the nearest)", 6, "1 -128 0xffffffffc3000000", "1 0 0", "2 65535 0x477fff00",
                "3 -32768 0xffffffffc7000000", "4 16777215 0x4b7fffff", "4 16777216 0x4b800000",
                "4 16777217 0x4b800000", "4 16777218 0x4b800001", "4 16777219 0x4b800002",
                "4 -16777217 0xffffffffcb800000", "4 -16777219 0xffffffffcb800002", "4 MAX 0x4f000000",
                "4 2147483520 0x4effffff", "4 2147483583 0x4effffff", "4 2147483584 0x4f000000",
                "4 -2147483583 0xffffffffceffffff", "4 MIN 0xffffffffcf000000",
                "5 LONGMAX 0x5f000000", "5 LONGMIN 0xffffffffdf000000", "5 1152921573326323712 0x5d800000",
                "5 1152921573326323713 0x5d800001", "5 -1152921573326323713 0xffffffffdd800001", "5 -1 0xffffffffbf800000");
    }

    private static void widenedToTheNearestDouble() {
        widens("is WIDENED (to the nearest)", 7, "1 -128 0xc060000000000000", "2 65535 0x40efffe000000000",
                "3 -32768 0xc0e0000000000000", "4 MAX 0x41dfffffffc00000", "4 MIN 0xc1e0000000000000",
                "5 9007199254740991 0x433fffffffffffff", "5 9007199254740992 0x4340000000000000",
                "5 9007199254740993 0x4340000000000000", "5 9007199254740994 0x4340000000000001",
                "5 9007199254740995 0x4340000000000002", "5 -9007199254740993 0xc340000000000000",
                "5 -9007199254740995 0xc340000000000002", "5 LONGMAX 0x43e0000000000000",
                "5 9223372036854775295 0x43dfffffffffffff", "5 9223372036854775296 0x43e0000000000000",
                "5 LONGMIN 0xc3e0000000000000", "5 -1 0xbff0000000000000", "5 0 0");
    }

    private static void widenedFloat() {
        widens("FLOAT to DOUBLE", 7, "6 0 0", "6 0x80000000 0x8000000000000000", "6 1 0x36a0000000000000",
                "6 2 0x36b0000000000000", "6 3 0x36b8000000000000", "6 0x80000001 0xb6a0000000000000",
                "6 0x007fffff 0x380fffffc0000000", "6 0x00800000 0x3810000000000000", "6 0x3f800000 0x3ff0000000000000",
                "6 0x7f7fffff 0x47efffffe0000000", "6 0xff7fffff 0xc7efffffe0000000",
                "6 0x7f800000 0x7ff0000000000000", "6 0xff800000 0xfff0000000000000");
    }

    private static void fortyMarks() {
        StringBuilder lines = new StringBuilder();
        for (int number = 0; number < 40; number++) {
            lines.append("mark(" + number % 2 + ", " + (number + 100) + ") = " + number + "\n");
        }
        Runs.run("Promise 3: 'MARKS, 40 at most, numbered as they come'", lines.toString(), """
                about(0) = 40
                mark(0, 7) = FULL
                mark(1, 7) = FULL
                about(0) = 40
                sign(0) = 100
                sign(39) = 139
                sign(40) = 0
                hold(8, 39) = 1
                held() = 9
                hold(8, 40) = OUTSIDE
                weight() = 39
                shelve(0, 11, 39) = 1
                shelve(0, 11, 40) = OUTSIDE
                count(0) = WRONG
                """);
    }

    private static void marksAndBuoys() {
        Runs.run("Promises 3, 12 and 21: 'have a SIGN (an int); some are BUOYS (an heir)'", """
                mark(1, MIN) = 0
                mark(0, MAX) = 1
                mark(1, 0) = 2
                sign(0) = MIN
                sign(1) = MAX
                sign(2) = 0
                hold(8, 0) = 1
                held() = 9
                hold(8, 1) = 1
                held() = 8
                hold(8, 2) = 1
                held() = 9
                """);
    }

    private static void nothingAtFirst() {
        Runs.run("Promises 1, 7, 12 and 17: 'SHELVES 0 .. 15 hold nothing (at first)', 'THE HAND holds nothing (at first)'",
                Runs.each("count({}) = NULL", 0, 1, 7, 8, 14, 15),
                Runs.each("count({}) = OUTSIDE", -1, 16, "MIN", "MAX"), """
                about(1) = 0
                about(2) = 6
                held() = 12
                weight() = 0
                seen() = 0
                ended() = 0
                note(0, 1) = WRONG
                noted(0) = WRONG
                """);
    }

    private static void cellsAtFirst() {
        StringBuilder logs = new StringBuilder();
        for (int kind = 0; kind <= 7; kind++) {
            logs.append("shelve(4, " + kind + ", 24) = 1\n");
            logs.append(Runs.each("take(4, {}) = 0\nheld() = " + kind + "\nweight() = 0", 0, 23));
        }
        Runs.runAfter("Promise 2: 'a LOG of a KIND (cells 0 at first)'", FURNISHED, logs.toString());
        StringBuilder rows = new StringBuilder();
        for (int kind = 8; kind <= 10; kind++) {
            rows.append("shelve(4, " + kind + ", 24) = 1\nhold(4, 1) = 1\n");
            rows.append(Runs.each("take(4, {}) = 0\nheld() = 12\nweight() = 0", 0, 23));
        }
        Runs.runAfter("Promise 2: 'a row of MARKS or of BUOYS (nothing in them at first), of PAGES (.. nothing at first)'",
                FURNISHED, rows.toString());
    }

    private static void onMoreThanOneShelf() {
        Runs.runAfter("Promise 4: 'It may lie on more than one: see MOVE'", FURNISHED, """
                write(14, 0, 4, 99) = 0
                read(4, 0, 4) = 0
                seen() = 99
                hold(4, -99) = 1
                give(4, 2) = 0
                read(14, 2, 4) = 0
                seen() = -99
                turn(14) = 1
                read(4, 0, 4) = 0
                seen() = -99
                turn(4) = 1
                turn(14) = 1
                turn(4) = 1
                read(14, 0, 4) = 0
                seen() = 99
                carry(4, 0, 14, 1, 2) = 2
                total(14) = 0
                seen() = 297
                shelve(4, 4, 3) = 1
                total(14) = 0
                seen() = 297
                write(4, 0, 4, 1) = 0
                read(14, 0, 4) = 0
                seen() = 99
                """);
    }

    private static void readCauses() {
        String causes = Runs.each("read(13, {}, 5) = NULL", -1, 0, 2, 3, "MIN", "MAX")
                + Runs.each("read({}, -1, 5) = WRONG\nread({}, 0, 5) = WRONG\nread({}, 3, 5) = WRONG", 8, 9, 10, 11, 12)
                + Runs.each("read(4, {}, 5) = INDEX\nread(4, {}, 3) = INDEX", -1, 3, "MIN", "MAX")
                + Runs.each("read(4, {}, 3) = WRONG", 0, 2);
        Runs.runAfter("Promise 6: 'READ, WRITE as of a KIND: NULL; WRONG: it is no LOG; INDEX; WRONG: the cell's KIND"
                + " does not go for it (READ)'", FURNISHED, causes, """
                seen() = 41
                read(4, 0, 5) = 0
                seen() = 40
                read(4, 2, 5) = 0
                seen() = 42
                """);
    }

    private static void writeCauses() {
        String causes = Runs.each("write(13, {}, 4, 7) = NULL", -1, 0, 2, 3, "MIN", "MAX")
                + Runs.each("write({}, -1, 4, 7) = WRONG\nwrite({}, 0, 4, 7) = WRONG\nwrite({}, 3, 4, 7) = WRONG",
                        8, 9, 10, 11, 12)
                + Runs.each("write(4, {}, 4, 7) = INDEX\nwrite(4, {}, 5, 7) = INDEX", -1, 3, "MIN", "MAX")
                + Runs.each("write(4, {}, 5, 7) = WRONG", 0, 2);
        Runs.runAfter("Promise 8: 'READ, WRITE as of a KIND: NULL; WRONG: it is no LOG; INDEX; WRONG: .. it does not go"
                + " for the cell's (WRITE)'", FURNISHED, causes, """
                total(4) = 0
                seen() = 123
                write(4, 0, 3, 7) = 0
                write(4, 2, 4, 8) = 0
                total(4) = 0
                seen() = 56
                """);
    }

    private static void countCauses() {
        Runs.runAfter("Promise 5: 'COUNT: NULL; WRONG: a MARK itself'", FURNISHED,
                "count(13) = NULL", Runs.each("count({}) = WRONG", 11, 12),
                Runs.each("count({}) = 3", 0, 7, 8, 9, 10, 14), "count(15) = 0");
    }

    private static void takeCauses() {
        String causes = Runs.each("take(13, {}) = NULL", -1, 0, 3, "MIN", "MAX")
                + Runs.each("take({}, -1) = WRONG\ntake({}, 0) = WRONG\ntake({}, 3) = WRONG", 11, 12)
                + Runs.each("take({}, -1) = INDEX\ntake({}, 3) = INDEX\ntake({}, MIN) = INDEX\ntake({}, MAX) = INDEX",
                        0, 1, 2, 3, 4, 5, 6, 7, 8, 9, 10);
        Runs.runAfter("Promise 9: 'TAKE: NULL; WRONG: a MARK itself; INDEX'", FURNISHED, causes, """
                held() = 5
                weight() = -9
                """);
    }

    private static void whatIsTaken() {
        StringBuilder lines = new StringBuilder();
        for (int kind = 1; kind <= 5; kind++) {
            for (int i = 0; i < 3; i += 2) {
                lines.append("take(" + kind + ", " + i + ") = 0\nheld() = " + kind + "\nweight() = " + (10 * kind + i) + "\n");
            }
        }
        Runs.runAfter("Promise 9: 'What is taken from a LOG is a number of its KIND, from other rows what lies there, or"
                + " nothing'", FURNISHED, lines.toString(), """
                take(0, 0) = 0
                held() = 0
                weight() = 1
                take(6, 2) = 0
                held() = 6
                weight() = 0x40400000
                take(7, 2) = 0
                held() = 7
                weight() = 0x4008000000000000
                take(8, 0) = 0
                held() = 8
                weight() = 0
                take(8, 1) = 0
                held() = 9
                weight() = 1
                take(8, 2) = 0
                held() = 12
                weight() = 0
                take(9, 0) = 0
                held() = 9
                weight() = 1
                take(9, 2) = 0
                held() = 12
                take(10, 0) = 0
                held() = 10
                weight() = 2
                noted(1) = 0
                seen() = -12
                take(10, 1) = 0
                held() = 12
                take(10, 2) = 0
                held() = 10
                weight() = 0
                """);
    }

    private static void giveIntoLogCauses() {
        String sentence = "Promise 10: 'GIVE: NULL; WRONG: a MARK itself; into a LOG: WRONG: THE HAND holds nothing; INDEX;"
                + " WRONG: it holds no number, or one that does not go for the LOG's KIND'";
        String[] ends = {"-1", "3", "MIN", "MAX"};
        String ahead = Runs.each("give(13, {}) = NULL\ngive(11, {}) = WRONG\ngive(12, {}) = WRONG", -1, 0, 3);
        Runs.runAfter(sentence + ", nothing held", FURNISHED, "hold(12, 0) = 1", ahead,
                Runs.each("give(4, {}) = WRONG\ngive(0, {}) = WRONG", (Object[]) ends),
                Runs.each("give(4, {}) = WRONG", 0, 2), Runs.each("give(15, {}) = WRONG", -1, 0), "held() = 12");
        for (String hand : new String[] {"hold(8, 0) = 1", "hold(8, 1) = 1", "hold(10, 3) = 1", "hold(5, 6) = 1"}) {
            Runs.runAfter(sentence + ", " + hand, FURNISHED, hand, ahead,
                    Runs.each("give(4, {}) = INDEX\ngive(0, {}) = INDEX", (Object[]) ends),
                    Runs.each("give(4, {}) = WRONG", 0, 2), Runs.each("give(15, {}) = INDEX", -1, 0));
        }
        Runs.runAfter(sentence + ", one that goes", FURNISHED, "hold(3, 6) = 1", ahead,
                Runs.each("give(4, {}) = INDEX", (Object[]) ends), Runs.each("give(4, {}) = 0", 0, 2), """
                held() = 3
                weight() = 6
                total(4) = 0
                seen() = 53
                """);
    }

    private static void giveIntoOtherRowsCauses() {
        String sentence = "Promise 10: 'GIVE: NULL; WRONG: a MARK itself; .. Into other rows: INDEX; WRONG: it does not fit'";
        for (String hand : new String[] {"hold(12, 0) = 1", "hold(8, 0) = 1", "hold(8, 1) = 1", "hold(10, 3) = 1",
                "hold(4, 6) = 1"}) {
            Runs.runAfter(sentence + ", " + hand, FURNISHED, hand,
                    Runs.each("give(13, {}) = NULL\ngive(11, {}) = WRONG", -1, 0, 3),
                    Runs.each("give(8, {}) = INDEX\ngive(9, {}) = INDEX\ngive(10, {}) = INDEX", -1, 3, "MIN", "MAX"));
        }
    }

    private static void whatFits() {
        String sentence = "Promise 10: 'nothing fits each; a MARK of either sort MARKS; a BUOY BUOYS; a PAGE PAGES'";
        String[][] hands = {{"hold(12, 0) = 1", "0", "0", "0"}, {"hold(8, 2) = 1", "0", "WRONG", "WRONG"},
                {"hold(8, 1) = 1", "0", "0", "WRONG"}, {"hold(10, 3) = 1", "WRONG", "WRONG", "0"}};
        for (String[] hand : hands) {
            fits(sentence, hand);
        }
        for (int kind = 0; kind <= 7; kind++) {
            fits(sentence, new String[] {"hold(" + kind + ", 1) = 1", "WRONG", "WRONG", "WRONG"});
        }
    }

    private static void fits(String sentence, String[] hand) {
        StringBuilder lines = new StringBuilder(hand[0] + "\n");
        for (int i = 0; i < 3; i += 2) {
            for (int shelf = 8; shelf <= 10; shelf++) {
                lines.append("give(" + shelf + ", " + i + ") = " + hand[shelf - 7] + "\n");
            }
        }
        Runs.runAfter(sentence + ", " + hand[0], FURNISHED, lines.toString());
    }

    private static void rowsWithoutCells() {
        StringBuilder lines = new StringBuilder();
        for (int kind = 0; kind <= 10; kind++) {
            String as = "" + Math.min(kind, 7);
            String readCause = kind <= 7 ? "INDEX" : "WRONG";
            lines.append("shelve(15, " + kind + ", 0) = 1\ncount(15) = 0\n");
            lines.append(Runs.each("read(15, {}, " + as + ") = " + readCause, -1, 0, "MAX"));
            lines.append(Runs.each("write(15, {}, " + as + ", 0) = " + readCause, -1, 0, "MAX"));
            lines.append(Runs.each("take(15, {}) = INDEX\ngive(15, {}) = INDEX", -1, 0, "MAX"));
            lines.append("turn(15) = 1\ncount(15) = 0\n");
        }
        Runs.runAfter("Promises 5, 6, 8, 9, 10 and 20: 'INDEX (no such cell)', rows without cells", FURNISHED,
                lines.toString(), """
                held() = 5
                weight() = -9
                seen() = 41
                """);
    }

    private static void outsideAheadOfCauses() {
        Runs.runAfter("Promises 2 to 20: 'Refusals come ahead of CAUSES: OUTSIDE (a number is not as told)'", FURNISHED, """
                read(13, 0, -1) = OUTSIDE
                read(13, 0, 8) = OUTSIDE
                read(13, 0, 7) = NULL
                read(11, 0, 8) = OUTSIDE
                read(11, 0, 7) = WRONG
                read(4, 3, 8) = OUTSIDE
                read(4, 3, 7) = INDEX
                read(16, -1, 8) = OUTSIDE
                write(13, 0, 8, 1) = OUTSIDE
                write(13, 0, -1, 1) = OUTSIDE
                write(13, 0, 6, 0x7f800001) = OUTSIDE
                write(13, 0, 6, 0x7f800000) = NULL
                write(11, 0, 7, 0x7ff0000000000001) = OUTSIDE
                write(11, 0, 7, 0x7ff0000000000000) = WRONG
                write(8, 0, 6, 0xff800001) = OUTSIDE
                write(8, 0, 6, 0xff800000) = WRONG
                write(4, 0, 6, 0x7fc00000) = OUTSIDE
                write(4, 0, 6, 0) = WRONG
                write(6, 3, 6, 0x7fc00000) = OUTSIDE
                write(6, 3, 6, 0) = INDEX
                write(16, 3, 6, 0) = OUTSIDE
                carry(13, 0, 13, 0, 25) = OUTSIDE
                carry(13, 0, 13, 0, -1) = OUTSIDE
                carry(13, 0, 16, 0, 1) = OUTSIDE
                carry(16, 0, 13, 0, 1) = OUTSIDE
                carry(13, 0, 13, 0, 24) = 0
                ended() = NULL
                seen() = 41
                weight() = -9
                """);
    }

    private static void outsideAheadOfFull() {
        StringBuilder lines = new StringBuilder();
        for (int number = 0; number < 40; number++) {
            lines.append("mark(0, 0) = " + number + "\n");
        }
        Runs.runAfter("Promise 3: 'Refusals come ahead of CAUSES: OUTSIDE (a number is not as told), FULL'",
                lines.toString(), """
                mark(-1, 3) = OUTSIDE
                mark(0, 3) = FULL
                mark(1, 3) = FULL
                mark(2, 3) = OUTSIDE
                mark(MIN, 3) = OUTSIDE
                mark(MAX, 3) = OUTSIDE
                about(0) = 40
                """);
    }
}
