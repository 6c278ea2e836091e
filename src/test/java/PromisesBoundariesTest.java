/**
 * The boundaries that promises 1 to 22 name, a test for each sentence: the last that is taken and the first that is
 * refused, at both ends. What a call must leave as it was is looked at by Runs after every line.
 */
public final class PromisesBoundariesTest {
    private static final String FURNISHED = Station.FURNISHED;
    private static final Object[] NO_SHELVES = {-1, 16, "MIN", "MAX"};

    public static void main(String[] args) {
        newObject();
        shelveShelf();
        shelveKind();
        for (int kind = 0; kind <= 10; kind++) {
            shelveCells(kind);
        }
        shelveMarkItself();
        shelveMarkItselfBeyondCells();
        shelveNothing();
        shelveNewOne();
        markSort();
        markSign();
        moveShelves();
        moveSameThing();
        moveNothing();
        countCells();
        readShelfAndKind();
        readSeen();
        seenAtFirst();
        writeShelfKindAndNoNumber();
        writeEnds();
        take();
        give();
        holdKind();
        holdMark();
        holdPage();
        holdNoNumber();
        holdNothing();
        held();
        weight();
        noteWithoutPage();
        notePlaces();
        noteSamePage();
        notedPlaces();
        carryNumber();
        carryShelves();
        carryFromPlace();
        carryToPlace();
        carryUntilCause();
        carryOneByOne();
        carryHand();
        carryThings();
        endedNone();
        endedByTaking();
        endedByGiving();
        endedAfterRefused();
        totalWraps();
        totalWrong();
        totalWithoutCells();
        peakFirst();
        peakAsDouble();
        peakWrong();
        peakWithoutCells();
        turnCells();
        turnThings();
        turnRefused();
        sign();
        aboutWhat();
        aboutMarks();
        aboutShelves();
        aboutCauses();
        aboutCarries();
        aboutRefusedAndOthers();
        aboutAtTheLastCall();
        Due.end();
    }

    private static void newObject() {
        Runs.run("Promise 1, new object: 'Nothing on the SHELVES, no MARKS'", """
                about(0) = 0
                about(1) = 0
                about(2) = 0
                about(3) = 0
                about(4) = 0
                sign(0) = 0
                hold(8, 0) = OUTSIDE
                shelve(0, 11, 0) = OUTSIDE
                count(0) = NULL
                take(15, 0) = NULL
                about(2) = 2
                """);
    }

    private static void shelveShelf() {
        Runs.runAfter("Promise 2, shelve: 'A new one comes on a SHELF .. OUTSIDE'", FURNISHED,
                Runs.each("shelve({}, 4, 1) = OUTSIDE\nshelve({}, 8, 1) = OUTSIDE\nshelve({}, 11, 0) = OUTSIDE\n"
                        + "shelve({}, 12, 0) = OUTSIDE", NO_SHELVES),
                Runs.each("shelve({}, 4, 1) = 1\ncount({}) = 1\nshelve({}, 11, 0) = 1\ncount({}) = WRONG\n"
                        + "shelve({}, 12, 0) = 1\ncount({}) = NULL", 0, 15));
    }

    private static void shelveKind() {
        Runs.runAfter("Promise 2, shelve: 'a LOG of KIND 0 .. 7, MARKS (8), BUOYS (9), PAGES (10) .. (11) .. (12)'",
                FURNISHED,
                Runs.each("shelve(4, {}, 1) = OUTSIDE\ncount(4) = 3", -1, 13, "MIN", "MAX"),
                Runs.each("shelve(4, {}, 1) = 1\ncount(4) = 1\ntake(4, 0) = 0\nheld() = {}", 0, 1, 2, 3, 4, 5, 6, 7),
                Runs.each("shelve(4, {}, 1) = 1\ncount(4) = 1\ntake(4, 0) = 0\nheld() = 12", 8, 9, 10), """
                shelve(4, 8, 1) = 1
                hold(8, 0) = 1
                give(4, 0) = 0
                shelve(4, 9, 1) = 1
                give(4, 0) = WRONG
                hold(8, 1) = 1
                give(4, 0) = 0
                shelve(4, 10, 1) = 1
                give(4, 0) = WRONG
                hold(10, 1) = 1
                give(4, 0) = 0
                shelve(4, 11, 1) = 1
                count(4) = WRONG
                shelve(4, 12, 1) = 1
                count(4) = NULL
                """);
    }

    private static void shelveCells(int kind) {
        Runs.runAfter("Promise 2, shelve: 'with n cells (0 .. 24)', kind " + kind, FURNISHED,
                Runs.each("shelve(3, " + kind + ", {}) = OUTSIDE\ncount(3) = 3", -1, 25, "MIN", "MAX"),
                Runs.each("shelve(3, " + kind + ", {}) = 1\ncount(3) = {}", 0, 1, 23, 24), """
                take(3, -1) = INDEX
                take(3, 0) = 0
                take(3, 23) = 0
                take(3, 24) = INDEX
                """,
                "shelve(3, " + kind + ", 25) = OUTSIDE", "shelve(3, " + kind + ", -1) = OUTSIDE", "count(3) = 24");
    }

    private static void shelveMarkItself() {
        Runs.run("Promise 2, shelve: 'MARK n itself (11)'", """
                shelve(0, 11, 0) = OUTSIDE
                mark(0, 1) = 0
                shelve(0, 11, 0) = 1
                shelve(0, 11, 1) = OUTSIDE
                shelve(0, 11, -1) = OUTSIDE
                shelve(0, 11, MIN) = OUTSIDE
                shelve(0, 11, MAX) = OUTSIDE
                count(0) = WRONG
                mark(1, 1) = 1
                shelve(1, 11, 2) = OUTSIDE
                count(1) = NULL
                shelve(1, 11, 1) = 1
                count(1) = WRONG
                about(1) = 2
                """);
    }

    private static void shelveMarkItselfBeyondCells() {
        Runs.runAfter("Promise 2, shelve: 'MARK n itself (11)', the cells' limit is not the MARKS'", fortyMarks(), """
                shelve(0, 11, 24) = 1
                shelve(1, 11, 25) = 1
                shelve(2, 11, 39) = 1
                shelve(3, 11, 40) = OUTSIDE
                about(1) = 3
                count(2) = WRONG
                count(3) = NULL
                """);
    }

    private static void shelveNothing() {
        Runs.runAfter("Promise 2, shelve: 'nothing (12): 1'", FURNISHED,
                Runs.each("shelve({}, 12, 0) = 1\ncount({}) = NULL", 4, 8, 11, 13),
                Runs.each("shelve(5, 12, {}) = 1\ncount(5) = NULL\nshelve(5, 4, 1) = 1", -1, 0, 24, 25, "MIN", "MAX"), """
                count(14) = 3
                read(14, 1, 4) = 0
                seen() = 41
                """);
    }

    private static void shelveNewOne() {
        Runs.runAfter("Promise 2, shelve: 'A new one comes on a SHELF'", FURNISHED, """
                shelve(4, 4, 3) = 1
                read(4, 1, 4) = 0
                seen() = 0
                read(14, 1, 4) = 0
                seen() = 41
                write(4, 1, 4, 6) = 0
                read(14, 1, 4) = 0
                seen() = 41
                shelve(8, 8, 3) = 1
                take(8, 0) = 0
                held() = 12
                shelve(10, 10, 3) = 1
                take(10, 0) = 0
                held() = 12
                """);
    }

    private static void markSort() {
        Runs.run("Promise 3, mark: 'A MARK (sort 0) or BUOY (1): its number. OUTSIDE: sort'", """
                mark(-1, 9) = OUTSIDE
                mark(2, 9) = OUTSIDE
                mark(MIN, 9) = OUTSIDE
                mark(MAX, 9) = OUTSIDE
                about(0) = 0
                mark(0, 9) = 0
                mark(1, 9) = 1
                mark(2, 9) = OUTSIDE
                mark(-1, 9) = OUTSIDE
                about(0) = 2
                hold(8, 0) = 1
                held() = 8
                hold(8, 1) = 1
                held() = 9
                hold(8, 2) = OUTSIDE
                """);
    }

    private static void markSign() {
        Runs.run("Promise 3, mark: 'have a SIGN (an int)', any int", """
                mark(0, MIN) = 0
                mark(0, MAX) = 1
                mark(1, -101) = 2
                mark(1, 0) = 3
                sign(0) = MIN
                sign(1) = MAX
                sign(2) = OUTSIDE
                sign(3) = 0
                """);
    }

    private static void moveShelves() {
        Runs.runAfter("Promise 4, move: 'What one SHELF holds lies on another one .. OUTSIDE'", FURNISHED,
                Runs.each("move({}, 4) = OUTSIDE\nmove(4, {}) = OUTSIDE\nmove({}, {}) = OUTSIDE", NO_SHELVES), """
                count(4) = 3
                move(0, 15) = 1
                count(15) = 3
                move(15, 1) = 1
                take(1, 0) = 0
                held() = 0
                move(5, 0) = 1
                take(0, 0) = 0
                held() = 5
                weight() = 50
                """);
    }

    private static void moveSameThing() {
        Runs.runAfter("Promise 4, move: 'lies on another one, too, the same thing: 1'", FURNISHED, """
                move(5, 13) = 1
                count(5) = 3
                write(5, 0, 5, 7) = 0
                read(13, 0, 5) = 0
                seen() = 7
                write(13, 2, 5, 8) = 0
                read(5, 2, 5) = 0
                seen() = 8
                move(8, 0) = 1
                hold(8, 2) = 1
                give(0, 2) = 0
                take(8, 2) = 0
                weight() = 2
                move(10, 1) = 1
                hold(10, 1) = 1
                give(10, 1) = 0
                take(1, 1) = 0
                held() = 10
                move(5, 5) = 1
                read(13, 0, 5) = 0
                seen() = 7
                write(5, 0, 5, 9) = 0
                read(13, 0, 5) = 0
                seen() = 9
                """);
    }

    private static void moveNothing() {
        Runs.runAfter("Promise 4, move: 'What one SHELF holds lies on another one, too', nothing and a MARK", FURNISHED, """
                about(1) = 15
                move(13, 4) = 1
                count(4) = NULL
                count(14) = 3
                about(1) = 14
                move(13, 13) = 1
                count(13) = NULL
                move(11, 13) = 1
                count(13) = WRONG
                count(11) = WRONG
                about(1) = 15
                move(12, 5) = 1
                count(5) = WRONG
                """);
    }

    private static void countCells() {
        Runs.runAfter("Promise 5, count: 'how many cells. OUTSIDE; NULL, WRONG'", FURNISHED,
                Runs.each("count({}) = OUTSIDE", NO_SHELVES), """
                count(0) = 3
                count(15) = 0
                shelve(15, 7, 24) = 1
                count(15) = 24
                count(13) = NULL
                count(11) = WRONG
                """);
    }

    private static void readShelfAndKind() {
        Runs.runAfter("Promise 6, read: 'OUTSIDE (shelf, as)'", FURNISHED,
                Runs.each("read({}, 0, 5) = OUTSIDE", NO_SHELVES),
                Runs.each("read(4, 1, {}) = OUTSIDE", -1, 8, "MIN", "MAX"), """
                seen() = 41
                read(0, 0, 0) = 0
                seen() = 1
                move(7, 15) = 1
                read(15, 2, 7) = 0
                seen() = 0x4008000000000000
                read(1, 0, 0) = WRONG
                read(1, 0, 7) = 0
                seen() = 0x4024000000000000
                """);
    }

    private static void readSeen() {
        Runs.runAfter("Promise 6, read: 'READ as of a KIND: 0; SEEN becomes it', the ends of a row", FURNISHED, """
                read(5, -1, 5) = INDEX
                seen() = 41
                read(5, 0, 5) = 0
                seen() = 50
                read(5, 3, 5) = INDEX
                seen() = 50
                read(5, 2, 5) = 0
                seen() = 52
                read(5, MIN, 5) = INDEX
                read(5, MAX, 5) = INDEX
                read(5, 2, 4) = WRONG
                read(13, 2, 4) = NULL
                seen() = 52
                weight() = -9
                """);
    }

    private static void seenAtFirst() {
        Runs.run("Promise 7, seen: 'BITS of SEEN; 0 at first'", """
                seen() = 0
                shelve(0, 5, 1) = 1
                write(0, 0, 5, LONGMIN) = 0
                seen() = 0
                take(0, 0) = 0
                seen() = 0
                peak(0) = 0
                seen() = 0
                read(0, 0, 4) = WRONG
                seen() = 0
                read(0, 0, 5) = 0
                seen() = LONGMIN
                seen() = LONGMIN
                write(0, 0, 5, LONGMAX) = 0
                seen() = LONGMIN
                read(0, 0, 5) = 0
                seen() = LONGMAX
                """);
    }

    private static void writeShelfKindAndNoNumber() {
        Runs.runAfter("Promise 8, write: 'OUTSIDE (shelf, as, no number)'", FURNISHED,
                Runs.each("write({}, 0, 5, 1) = OUTSIDE", NO_SHELVES),
                Runs.each("write(5, 1, {}, 1) = OUTSIDE", -1, 8, "MIN", "MAX"), """
                write(7, 1, 6, 0x7f800001) = OUTSIDE
                write(7, 1, 7, 0x7ff0000000000001) = OUTSIDE
                read(7, 1, 7) = 0
                seen() = 0x4000000000000000
                write(7, 1, 6, 0x7f800000) = 0
                read(7, 1, 7) = 0
                seen() = 0x7ff0000000000000
                write(7, 1, 7, 0xfff0000000000000) = 0
                read(7, 1, 7) = 0
                seen() = 0xfff0000000000000
                write(0, 2, 0, 1) = 0
                read(0, 2, 0) = 0
                seen() = 1
                move(7, 15) = 1
                write(15, 2, 7, 0) = 0
                read(7, 2, 7) = 0
                seen() = 0
                """);
    }

    private static void writeEnds() {
        Runs.runAfter("Promise 8, write: 'WRITE as of a KIND: 0', the ends of a row", FURNISHED, """
                write(5, -1, 5, 9) = INDEX
                write(5, 0, 5, 9) = 0
                write(5, 2, 5, 8) = 0
                write(5, 3, 5, 7) = INDEX
                write(5, MIN, 5, 7) = INDEX
                write(5, MAX, 5, 7) = INDEX
                read(5, 0, 5) = 0
                seen() = 9
                read(5, 1, 5) = 0
                seen() = 51
                read(5, 2, 5) = 0
                seen() = 8
                shelve(13, 3, 24) = 1
                write(13, 23, 1, -1) = 0
                write(13, 24, 1, -1) = INDEX
                read(13, 23, 3) = 0
                seen() = -1
                """);
    }

    private static void take() {
        Runs.runAfter("Promise 9, take: 'TAKE: 0; THE HAND holds that. OUTSIDE; NULL, WRONG, INDEX'", FURNISHED,
                Runs.each("take({}, 0) = OUTSIDE", NO_SHELVES), """
                take(15, 0) = INDEX
                take(13, 0) = NULL
                take(11, 0) = WRONG
                take(4, -1) = INDEX
                take(4, 3) = INDEX
                held() = 5
                weight() = -9
                take(4, 0) = 0
                weight() = 40
                take(4, 2) = 0
                held() = 4
                weight() = 42
                write(4, 2, 4, 6) = 0
                weight() = 42
                take(0, 0) = 0
                held() = 0
                move(5, 15) = 1
                take(15, 2) = 0
                held() = 5
                weight() = 52
                """);
    }

    private static void give() {
        Runs.runAfter("Promise 10, give: 'GIVE: 0 (THE HAND holds it, too). OUTSIDE; NULL, WRONG, INDEX'", FURNISHED,
                Runs.each("give({}, 0) = OUTSIDE", NO_SHELVES), """
                give(15, 0) = INDEX
                give(13, 0) = NULL
                give(11, 0) = WRONG
                give(4, 0) = WRONG
                give(5, -1) = INDEX
                give(5, 3) = INDEX
                give(5, 0) = 0
                give(5, 2) = 0
                held() = 5
                weight() = -9
                total(5) = 0
                seen() = 33
                hold(0, 1) = 1
                give(0, 2) = 0
                read(0, 2, 0) = 0
                seen() = 1
                move(0, 15) = 1
                give(15, 1) = 0
                read(0, 1, 0) = 0
                seen() = 1
                hold(8, 1) = 1
                give(8, 0) = 0
                give(9, 2) = 0
                held() = 9
                weight() = 1
                """);
    }

    private static void holdKind() {
        Runs.runAfter("Promise 11, hold: 'OUTSIDE (kind, ..)'", FURNISHED,
                Runs.each("hold({}, 0) = OUTSIDE", -1, 9, 11, 13, "MIN", "MAX"), """
                held() = 5
                weight() = -9
                """,
                Runs.each("hold({}, 1) = 1\nheld() = {}\nweight() = 1", 0, 1, 2, 3, 4, 5, 6, 7), """
                hold(8, 0) = 1
                held() = 8
                hold(9, 1) = OUTSIDE
                held() = 8
                hold(10, 1) = 1
                held() = 10
                hold(11, 1) = OUTSIDE
                held() = 10
                hold(12, 1) = 1
                held() = 12
                """);
    }

    private static void holdMark() {
        Runs.run("Promise 11, hold: 'a MARK (8: its number) .. OUTSIDE (.. the MARK ..)'", """
                hold(8, 0) = OUTSIDE
                held() = 12
                mark(0, 5) = 0
                mark(1, 5) = 1
                hold(8, -1) = OUTSIDE
                hold(8, 0) = 1
                held() = 8
                weight() = 0
                hold(8, 2) = OUTSIDE
                held() = 8
                hold(8, 1) = 1
                held() = 9
                weight() = 1
                hold(8, 40) = OUTSIDE
                hold(8, 0x100000000) = OUTSIDE
                hold(8, 0xffffffff00000000) = OUTSIDE
                hold(8, LONGMIN) = OUTSIDE
                hold(8, LONGMAX) = OUTSIDE
                held() = 9
                weight() = 1
                """);
    }

    private static void holdPage() {
        Runs.runAfter("Promise 11, hold: 'a new PAGE (10: of so many ints, 0 .. 24) .. OUTSIDE (.. the PAGE)'", FURNISHED,
                Runs.each("hold(10, {}) = OUTSIDE", -1, 25, "0x100000000", "0x100000018", "LONGMIN", "LONGMAX"), """
                held() = 5
                weight() = -9
                hold(10, 0) = 1
                held() = 10
                weight() = 0
                hold(10, 24) = 1
                weight() = 24
                hold(10, 25) = OUTSIDE
                hold(10, -1) = OUTSIDE
                weight() = 24
                note(23, 6) = 0
                hold(10, 24) = 1
                noted(23) = 0
                seen() = 0
                """);
    }

    private static void holdNoNumber() {
        Runs.runAfter("Promise 11, hold: 'OUTSIDE (.. a no number ..)'", FURNISHED, """
                hold(6, 0x7f800001) = OUTSIDE
                hold(6, 0xff800001) = OUTSIDE
                hold(7, 0x7ff0000000000001) = OUTSIDE
                hold(7, 0xfff0000000000001) = OUTSIDE
                held() = 5
                weight() = -9
                hold(6, 0x7f800000) = 1
                weight() = 0x7f800000
                hold(6, 0xff800000) = 1
                weight() = 0xffffffffff800000
                hold(7, 0x7ff0000000000000) = 1
                weight() = 0x7ff0000000000000
                hold(7, 0xfff0000000000000) = 1
                held() = 7
                weight() = 0xfff0000000000000
                """);
    }

    private static void holdNothing() {
        Runs.runAfter("Promise 11, hold: 'nothing (12): 1'", FURNISHED,
                Runs.each("hold(4, 3) = 1\nhold(12, {}) = 1\nheld() = 12\nweight() = 0", 0, 1, -1, 25, "LONGMIN", "LONGMAX"), """
                note(0, 1) = WRONG
                give(4, 0) = WRONG
                """);
    }

    private static void held() {
        Runs.runAfter("Promise 12, held: 'KIND 0 .. 7, 8 a MARK, 9 a BUOY, 10 a PAGE, 12 nothing'", FURNISHED,
                Runs.each("take({}, 2) = 0\nheld() = {}", 0, 1, 2, 3, 4, 5, 6, 7), """
                take(8, 0) = 0
                held() = 8
                take(8, 1) = 0
                held() = 9
                take(8, 2) = 0
                held() = 12
                take(10, 2) = 0
                held() = 10
                take(4, 3) = INDEX
                held() = 10
                take(9, 1) = 0
                held() = 12
                """);
    }

    private static void weight() {
        Runs.runAfter("Promise 13, weight: 'BITS of the number, the MARK's number, how many ints the PAGE has; 0 of nothing'",
                FURNISHED, """
                hold(5, LONGMIN) = 1
                weight() = LONGMIN
                hold(7, 0xffefffffffffffff) = 1
                weight() = 0xffefffffffffffff
                hold(6, 0x80000000) = 1
                weight() = MIN
                hold(2, -1) = 1
                weight() = 65535
                hold(8, 0) = 1
                weight() = 0
                hold(8, 2) = 1
                weight() = 2
                hold(10, 24) = 1
                weight() = 24
                hold(10, 0) = 1
                weight() = 0
                hold(8, 2) = 1
                hold(12, 5) = 1
                weight() = 0
                hold(5, 77) = 1
                take(8, 2) = 0
                weight() = 0
                hold(5, 77) = 1
                take(10, 0) = 0
                weight() = 2
                """);
    }

    private static void noteWithoutPage() {
        String[] hands = {"hold(12, 0) = 1", "hold(0, 1) = 1", "hold(4, 1) = 1", "hold(7, 1) = 1", "hold(8, 0) = 1",
            "hold(8, 1) = 1"};
        for (String hand : hands) {
            Runs.runAfter("Promises 14 and 15, note and noted: 'WRONG: it holds none; INDEX', " + hand, FURNISHED,
                    "hold(10, 2) = 1", "note(0, 4) = 0", hand,
                    Runs.each("note({}, 1) = WRONG\nnoted({}) = WRONG", -1, 0, 1, "MIN", "MAX"), "seen() = 41");
        }
    }

    private static void notePlaces() {
        Runs.runAfter("Promise 14, note: 'Int i of the PAGE that THE HAND holds becomes v: 0. .. INDEX'", FURNISHED,
                "hold(10, 24) = 1", Runs.each("note({}, 1) = INDEX", -1, 24, "MIN", "MAX"), """
                note(0, MIN) = 0
                note(23, MAX) = 0
                seen() = 41
                noted(0) = 0
                seen() = MIN
                noted(1) = 0
                seen() = 0
                noted(22) = 0
                seen() = 0
                noted(23) = 0
                seen() = MAX
                held() = 10
                weight() = 24
                hold(10, 1) = 1
                note(0, 7) = 0
                note(1, 7) = INDEX
                noted(0) = 0
                seen() = 7
                hold(10, 0) = 1
                note(0, 1) = INDEX
                note(-1, 1) = INDEX
                noted(0) = INDEX
                """);
    }

    private static void noteSamePage() {
        Runs.runAfter("Promise 14, note: 'Int i of the PAGE that THE HAND holds', wherever it lies, too", FURNISHED, """
                take(10, 0) = 0
                give(10, 1) = 0
                note(0, 99) = 0
                hold(12, 0) = 1
                take(10, 1) = 0
                noted(0) = 0
                seen() = 99
                note(1, 98) = 0
                take(10, 0) = 0
                noted(1) = 0
                seen() = 98
                hold(10, 2) = 1
                note(0, 1) = 0
                take(10, 0) = 0
                noted(0) = 0
                seen() = 99
                """);
    }

    private static void notedPlaces() {
        Runs.runAfter("Promise 15, noted: 'The same int: what it is comes into SEEN: 0. WRONG, INDEX'", FURNISHED, """
                noted(0) = WRONG
                take(10, 0) = 0
                noted(-1) = INDEX
                noted(2) = INDEX
                noted(MIN) = INDEX
                noted(MAX) = INDEX
                seen() = 41
                noted(0) = 0
                seen() = 11
                noted(1) = 0
                seen() = -12
                take(10, 2) = 0
                noted(0) = INDEX
                noted(-1) = INDEX
                seen() = -12
                """);
    }

    private static void carryNumber() {
        Runs.runAfter("Promise 16, carry: 'OUTSIDE (.. n 0 .. 24)'", FURNISHED, """
                shelve(13, 4, 24) = 1
                shelve(15, 5, 24) = 1
                write(13, 0, 4, 100) = 0
                write(13, 23, 4, 123) = 0
                carry(13, 0, 15, 0, -1) = OUTSIDE
                carry(13, 0, 15, 0, 25) = OUTSIDE
                carry(13, 0, 15, 0, MIN) = OUTSIDE
                carry(13, 0, 15, 0, MAX) = OUTSIDE
                ended() = NULL
                weight() = -9
                total(15) = 0
                seen() = 0
                carry(13, 0, 15, 0, 0) = 0
                ended() = 0
                weight() = -9
                carry(13, 0, 15, 0, 24) = 24
                ended() = 0
                held() = 4
                weight() = 123
                read(15, 0, 5) = 0
                seen() = 100
                read(15, 23, 5) = 0
                seen() = 123
                """);
    }

    private static void carryShelves() {
        Runs.runAfter("Promise 16, carry: 'OUTSIDE (shelves, ..)'", FURNISHED,
                Runs.each("carry({}, 0, 5, 0, 1) = OUTSIDE\ncarry(4, 0, {}, 0, 1) = OUTSIDE\n"
                        + "carry({}, 0, 5, 0, 0) = OUTSIDE\ncarry(4, 0, {}, 0, 0) = OUTSIDE", NO_SHELVES), """
                ended() = NULL
                weight() = -9
                move(0, 15) = 1
                carry(15, 0, 0, 1, 1) = 1
                carry(0, 0, 15, 2, 1) = 1
                ended() = 0
                held() = 0
                read(0, 1, 0) = 0
                seen() = 1
                read(0, 2, 0) = 0
                seen() = 1
                """);
    }

    private static void carryFromPlace() {
        Runs.runAfter("Promise 16, carry: 'n cells from place i on of one SHELF's'", FURNISHED,
                Runs.each("carry(4, {}, 5, 0, 1) = 0\nended() = INDEX\ncarry(4, {}, 5, 0, 24) = 0\nended() = INDEX",
                        -1, -24, 3, "MIN", "MAX", 2147483624), """
                weight() = -9
                total(5) = 0
                seen() = 153
                carry(4, 2, 5, 0, 1) = 1
                ended() = 0
                read(5, 0, 5) = 0
                seen() = 42
                carry(4, 0, 5, 1, 1) = 1
                read(5, 1, 5) = 0
                seen() = 40
                carry(4, 0, 5, 0, 3) = 3
                ended() = 0
                carry(4, 0, 7, 0, 4) = 3
                ended() = INDEX
                carry(4, 1, 7, 0, 3) = 2
                ended() = INDEX
                weight() = 42
                """);
    }

    private static void carryToPlace() {
        Runs.runAfter("Promise 16, carry: 'GIVEN to the other SHELF's place k on'", FURNISHED,
                Runs.each("carry(4, 1, 5, {}, 1) = 0\nended() = INDEX-100\nweight() = 41\ncarry(4, 0, 5, {}, 24) = 0\n"
                        + "ended() = INDEX-100\nweight() = 40", -1, -24, 3, "MIN", "MAX", 2147483624), """
                total(5) = 0
                seen() = 153
                carry(4, 0, 5, 2, 1) = 1
                ended() = 0
                read(5, 2, 5) = 0
                seen() = 40
                carry(4, 0, 5, 2, 2) = 1
                ended() = INDEX-100
                weight() = 41
                carry(4, 0, 5, 1, 3) = 2
                ended() = INDEX-100
                weight() = 42
                read(5, 0, 5) = 0
                seen() = 50
                read(5, 2, 5) = 0
                seen() = 41
                """);
    }

    private static void carryUntilCause() {
        Runs.runAfter("Promise 16, carry: 'one by one, until one has a CAUSE: how many went'", FURNISHED, """
                carry(8, 0, 9, 0, 3) = 0
                ended() = WRONG-100
                carry(8, 1, 9, 1, 2) = 2
                ended() = 0
                take(9, 1) = 0
                held() = 9
                turn(8) = 1
                carry(8, 0, 9, 0, 3) = 2
                ended() = WRONG-100
                held() = 8
                take(9, 0) = 0
                held() = 12
                take(9, 1) = 0
                held() = 9
                carry(10, 0, 9, 0, 3) = 0
                ended() = WRONG-100
                carry(10, 1, 9, 0, 2) = 1
                ended() = WRONG-100
                carry(9, 0, 4, 0, 1) = 0
                ended() = WRONG-100
                carry(9, 0, 4, 3, 1) = 0
                ended() = WRONG-100
                carry(9, 1, 4, 2, 1) = 0
                ended() = WRONG-100
                carry(9, 1, 4, 3, 1) = 0
                ended() = INDEX-100
                carry(8, 2, 4, 3, 1) = 0
                ended() = INDEX-100
                carry(8, 2, 9, 3, 1) = 0
                ended() = INDEX-100
                total(4) = 0
                seen() = 123
                """);
    }

    private static void carryOneByOne() {
        Runs.runAfter("Promise 16, carry: 'each TAKEN and GIVEN .. one by one', within one row", FURNISHED, """
                carry(4, 0, 14, 0, 3) = 3
                total(4) = 0
                seen() = 123
                carry(5, 1, 5, 0, 2) = 2
                read(5, 0, 5) = 0
                seen() = 51
                read(5, 1, 5) = 0
                seen() = 52
                read(5, 2, 5) = 0
                seen() = 52
                carry(4, 0, 14, 1, 3) = 2
                ended() = INDEX-100
                read(4, 0, 4) = 0
                seen() = 40
                read(4, 1, 4) = 0
                seen() = 40
                read(14, 2, 4) = 0
                seen() = 40
                """);
    }

    private static void carryHand() {
        Runs.runAfter("Promise 16, carry: 'THE HAND holds what was taken last, if any was'", FURNISHED, """
                carry(13, 0, 5, 0, 1) = 0
                weight() = -9
                carry(11, 0, 5, 0, 1) = 0
                weight() = -9
                carry(4, 3, 5, 0, 1) = 0
                weight() = -9
                carry(4, 0, 5, 0, 0) = 0
                weight() = -9
                carry(4, 0, 13, 0, 1) = 0
                held() = 4
                weight() = 40
                hold(5, -9) = 1
                carry(4, 1, 11, 0, 1) = 0
                held() = 4
                weight() = 41
                carry(4, 1, 5, 0, 24) = 2
                held() = 4
                weight() = 42
                carry(8, 2, 13, 0, 1) = 0
                held() = 12
                weight() = 0
                carry(10, 0, 4, 0, 1) = 0
                held() = 10
                weight() = 2
                """);
    }

    private static void carryThings() {
        Runs.runAfter("Promise 16, carry: 'each TAKEN and GIVEN', the same PAGE and MARK", FURNISHED, """
                shelve(13, 10, 3) = 1
                carry(10, 0, 13, 0, 3) = 3
                ended() = 0
                take(10, 0) = 0
                note(1, 1000) = 0
                take(13, 0) = 0
                noted(1) = 0
                seen() = 1000
                take(13, 1) = 0
                held() = 12
                carry(9, 0, 8, 2, 1) = 1
                take(8, 2) = 0
                held() = 9
                weight() = 1
                carry(9, 1, 10, 0, 1) = 1
                take(10, 0) = 0
                held() = 12
                """);
    }

    private static void endedNone() {
        Runs.run("Promise 17, ended: '0 none'", """
                ended() = 0
                take(0, 0) = NULL
                ended() = 0
                carry(0, 0, 1, 0, 1) = 0
                ended() = NULL
                carry(0, -1, 1, 99, 0) = 0
                ended() = 0
                shelve(0, 4, 1) = 1
                carry(0, 0, 0, 0, 2) = 1
                ended() = INDEX
                carry(0, 0, 0, 0, 1) = 1
                ended() = 0
                """);
    }

    private static void endedByTaking() {
        Runs.runAfter("Promise 17, ended: 'The CAUSE that ended the latest CARRY', told by TAKING", FURNISHED, """
                carry(4, 0, 5, 0, 1) = 1
                ended() = 0
                carry(13, 0, 13, 0, 1) = 0
                ended() = NULL
                carry(13, 3, 5, 3, 24) = 0
                ended() = NULL
                carry(11, 0, 13, 0, 1) = 0
                ended() = WRONG
                carry(12, 3, 5, 3, 24) = 0
                ended() = WRONG
                carry(4, 3, 13, 0, 1) = 0
                ended() = INDEX
                carry(15, 0, 11, 0, 1) = 0
                ended() = INDEX
                """);
    }

    private static void endedByGiving() {
        Runs.runAfter("Promise 17, ended: 'less 100 if it was told by GIVING'", FURNISHED, """
                carry(4, 0, 13, 0, 1) = 0
                ended() = -111
                carry(4, 0, 13, -1, 24) = 0
                ended() = -111
                carry(4, 0, 11, 0, 1) = 0
                ended() = -112
                carry(4, 0, 3, 0, 1) = 0
                ended() = -112
                carry(4, 0, 5, 3, 1) = 0
                ended() = -113
                carry(4, 0, 15, 0, 1) = 0
                ended() = -113
                carry(4, 0, 5, 0, 3) = 3
                ended() = 0
                """);
    }

    private static void endedAfterRefused() {
        Runs.runAfter("Promise 17, ended: 'the latest CARRY that was not refused'", FURNISHED, """
                carry(4, 0, 5, 0, 25) = OUTSIDE
                ended() = NULL
                carry(4, 0, 3, 0, 24) = 0
                ended() = WRONG-100
                carry(4, 0, 5, 0, -1) = OUTSIDE
                carry(-1, 0, 5, 0, 1) = OUTSIDE
                carry(4, 0, 16, 0, 1) = OUTSIDE
                ended() = WRONG-100
                take(13, 0) = NULL
                give(4, 9) = INDEX
                count(11) = WRONG
                ended() = WRONG-100
                carry(4, 0, 5, 0, 1) = 1
                carry(4, 0, 5, 0, 25) = OUTSIDE
                ended() = 0
                """);
    }

    private static void totalWraps() {
        Runs.runAfter("Promise 18, total: 'All cells, READ as LONG, together (wrapping): 0; SEEN becomes that'", FURNISHED,
                Runs.each("total({}) = OUTSIDE", NO_SHELVES), """
                total(13) = NULL
                seen() = 41
                total(1) = 0
                seen() = 33
                total(3) = 0
                seen() = 93
                shelve(13, 5, 2) = 1
                write(13, 0, 5, LONGMAX) = 0
                total(13) = 0
                seen() = LONGMAX
                write(13, 1, 5, 1) = 0
                total(13) = 0
                seen() = LONGMIN
                write(13, 0, 5, LONGMIN) = 0
                total(13) = 0
                seen() = -9223372036854775807
                write(13, 1, 5, -1) = 0
                total(13) = 0
                seen() = LONGMAX
                write(13, 1, 5, LONGMIN) = 0
                total(13) = 0
                seen() = 0
                write(4, 0, 4, MAX) = 0
                write(4, 1, 4, MAX) = 0
                write(4, 2, 4, MAX) = 0
                total(14) = 0
                seen() = 6442450941
                write(2, 0, 2, 65535) = 0
                write(2, 1, 2, 65535) = 0
                write(2, 2, 2, 65535) = 0
                total(2) = 0
                seen() = 196605
                write(1, 0, 1, -128) = 0
                write(1, 1, 1, -128) = 0
                total(1) = 0
                seen() = -244
                """);
    }

    private static void totalWrong() {
        Runs.runAfter("Promise 18, total: 'OUTSIDE; NULL; WRONG: also if they do not go for that'", FURNISHED,
                Runs.each("total({}) = WRONG", 0, 6, 7, 8, 9, 10, 11, 12),
                Runs.each("shelve(13, {}, 1) = 1\ntotal(13) = WRONG", 0, 6, 7, 8, 9, 10),
                Runs.each("shelve(13, {}, 1) = 1\ntotal(13) = 0\nseen() = 0\nread(4, 1, 4) = 0", 1, 2, 3, 4, 5),
                "seen() = 41");
    }

    private static void totalWithoutCells() {
        StringBuilder lines = new StringBuilder();
        for (int kind = 0; kind <= 10; kind++) {
            lines.append("read(4, 1, 4) = 0\nseen() = 41\nshelve(13, " + kind + ", 0) = 1\ntotal(13) = 0\nseen() = 0\n");
        }
        Runs.runAfter("Promise 18, total: 'not if there are none: the sum is 0'", FURNISHED, lines.toString(), """
                read(4, 1, 4) = 0
                shelve(13, 11, 0) = 1
                total(13) = WRONG
                shelve(13, 12, 0) = 1
                total(13) = NULL
                seen() = 41
                """);
    }

    /** Rows of three or fewer cells of a kind, each with the place of its peak. */
    private static void peaks(String sentence, int kind, String... rows) {
        StringBuilder lines = new StringBuilder();
        for (String row : rows) {
            String[] words = row.split(" ");
            lines.append("shelve(13, " + kind + ", " + (words.length - 1) + ") = 1\n");
            for (int i = 1; i < words.length; i++) {
                lines.append("write(13, " + (i - 1) + ", " + kind + ", " + words[i] + ") = 0\n");
            }
            lines.append("peak(13) = " + words[0] + "\n");
        }
        Runs.runAfter("Promise 19, peak: '" + sentence + "', kind " + kind, FURNISHED, lines.toString(), "seen() = 41");
    }

    private static void peakFirst() {
        String sentence = "The first cell that, READ as DOUBLE, is greatest: its place";
        for (int kind = 1; kind <= 7; kind++) {
            peaks(sentence, kind, "0 5", "0 0", "0 5 5", "0 6 5 6", "1 5 6 6", "2 5 5 6", "0 0 0 0", "0 6 5 4");
        }
        peaks(sentence, 1, "0 -128", "0 -128 -128", "1 -128 -127", "2 -1 -2 0", "1 -128 127 126");
        peaks(sentence, 2, "0 -1 0", "1 32767 32768", "2 0 32768 65535");
        peaks(sentence, 3, "1 -32768 -32767", "1 -32768 32767");
        peaks(sentence, 4, "0 MIN", "0 MIN MIN", "1 MIN -2147483647", "0 MAX 2147483646", "1 2147483646 MAX", "1 MIN MAX MIN");
    }

    private static void peakAsDouble() {
        String sentence = "READ as DOUBLE, is greatest";
        peaks(sentence, 5, "0 LONGMIN", "1 LONGMIN LONGMAX", "0 LONGMIN -9223372036854775807",
                "0 9223372036854775296 LONGMAX", "1 9223372036854775295 9223372036854775296",
                "0 9007199254740992 9007199254740993", "1 9007199254740992 9007199254740994",
                "1 9007199254740991 9007199254740992 9007199254740993", "0 -9007199254740993 -9007199254740992");
        peaks(sentence, 6, "0 0x80000000 0", "0 0 0x80000000", "0 0xff800000", "0 0xff800000 0xff800000",
                "1 0xff800000 0xff7fffff", "1 0x7f7fffff 0x7f800000", "1 0x80000001 0x80000000", "1 0x80000000 1",
                "1 0xbf800001 0xbf800000", "2 0x007fffff 1 0x00800000");
        peaks(sentence, 7, "0 LONGMIN 0", "0 0 LONGMIN", "0 0xfff0000000000000", "1 0xfff0000000000000 0xffefffffffffffff",
                "1 0x7fefffffffffffff 0x7ff0000000000000", "1 0x8000000000000001 LONGMIN", "1 LONGMIN 1",
                "1 0xbff0000000000001 0xbff0000000000000", "0 0x7ff0000000000000 0x7ff0000000000000");
    }

    private static void peakWrong() {
        Runs.runAfter("Promise 19, peak: 'OUTSIDE; NULL; WRONG'", FURNISHED,
                Runs.each("peak({}) = OUTSIDE", NO_SHELVES), "peak(13) = NULL",
                Runs.each("peak({}) = WRONG", 0, 8, 9, 10, 11, 12),
                Runs.each("shelve(13, {}, 1) = 1\npeak(13) = WRONG", 0, 8, 9, 10),
                Runs.each("shelve(13, {}, 1) = 1\npeak(13) = 0", 1, 2, 3, 4, 5, 6, 7),
                Runs.each("peak({}) = 2", 1, 2, 3, 4, 5, 6, 7, 14), """
                shelve(13, 4, 24) = 1
                write(13, 23, 4, 1) = 0
                peak(13) = 23
                """);
    }

    private static void peakWithoutCells() {
        Runs.runAfter("Promise 19, peak: 'NONE: no cells. .. WRONG (not without cells)'", FURNISHED,
                Runs.each("shelve(13, {}, 0) = 1\npeak(13) = NONE", 0, 1, 2, 3, 4, 5, 6, 7, 8, 9, 10), """
                shelve(13, 11, 0) = 1
                peak(13) = WRONG
                shelve(13, 12, 0) = 1
                peak(13) = NULL
                """);
    }

    private static void turnCells() {
        for (int n : new int[] {0, 1, 2, 3, 4, 23, 24}) {
            StringBuilder before = new StringBuilder(), after = new StringBuilder();
            for (int i = 0; i < n; i++) {
                before.append("write(13, " + i + ", 4, " + (i + 7) + ") = 0\n");
                after.append("read(13, " + i + ", 4) = 0\nseen() = " + (n - i + 6) + "\n");
            }
            Runs.runAfter("Promise 20, turn: 'The cells turned round: 1', " + n, FURNISHED, "shelve(13, 4, " + n + ") = 1",
                    before.toString(), "turn(13) = 1", "count(13) = " + n, after.toString());
        }
    }

    private static void turnThings() {
        Runs.runAfter("Promise 20, turn: 'The cells turned round: 1', of every row",
                FURNISHED, Runs.each("turn({}) = 1\ntake({}, 2) = 0\nheld() = {}", 0, 1, 2, 3, 4, 5, 6, 7), """
                weight() = 0x3ff0000000000000
                turn(8) = 1
                take(8, 0) = 0
                held() = 12
                take(8, 1) = 0
                weight() = 1
                take(8, 2) = 0
                held() = 8
                weight() = 0
                turn(9) = 1
                take(9, 0) = 0
                held() = 12
                take(9, 2) = 0
                held() = 9
                turn(10) = 1
                take(10, 0) = 0
                weight() = 0
                take(10, 2) = 0
                weight() = 2
                turn(15) = 1
                read(14, 2, 4) = 0
                seen() = 40
                turn(14) = 1
                read(4, 2, 4) = 0
                seen() = 42
                """);
    }

    private static void turnRefused() {
        Runs.runAfter("Promise 20, turn: 'OUTSIDE; NULL, WRONG'", FURNISHED,
                Runs.each("turn({}) = OUTSIDE", NO_SHELVES), """
                turn(13) = NULL
                turn(11) = WRONG
                turn(12) = WRONG
                turn(0) = 1
                read(0, 2, 0) = 0
                seen() = 1
                move(5, 15) = 1
                turn(15) = 1
                read(5, 0, 5) = 0
                seen() = 52
                """);
    }

    private static void sign() {
        Runs.run("Promise 21, sign: 'SIGN of a MARK; 0: there is none'", """
                sign(0) = 0
                mark(0, 8) = 0
                sign(-1) = 0
                sign(0) = 8
                sign(1) = 0
                mark(1, NULL) = 1
                sign(1) = NULL
                sign(2) = 0
                sign(39) = 0
                sign(40) = 0
                sign(MIN) = 0
                sign(MAX) = 0
                about(2) = 0
                """);
        Runs.runAfter("Promise 21, sign: 'SIGN of a MARK; 0: there is none', forty", fortyMarks(), """
                sign(-1) = 0
                sign(0) = 1000
                sign(39) = 1039
                sign(40) = 0
                """);
    }

    private static void aboutWhat() {
        Runs.runAfter("Promise 22, about: 'How many: 0 MARKS, 1 SHELVES .., 2 .. 4 calls .. OUTSIDE'", FURNISHED, """
                about(-1) = OUTSIDE
                about(0) = 3
                about(1) = 15
                about(2) = 1
                about(3) = 0
                about(4) = 0
                about(5) = OUTSIDE
                about(MIN) = OUTSIDE
                about(MAX) = OUTSIDE
                about(2) = 1
                """);
    }

    private static void aboutMarks() {
        Runs.runAfter("Promise 22, about: '0 MARKS'", fortyMarks(), """
                about(0) = 40
                mark(0, 1) = FULL
                mark(2, 1) = OUTSIDE
                about(0) = 40
                """);
        Runs.run("Promise 22, about: '0 MARKS', from none", """
                about(0) = 0
                mark(2, 1) = OUTSIDE
                about(0) = 0
                mark(1, 1) = 0
                about(0) = 1
                """);
    }

    private static void aboutShelves() {
        Runs.run("Promise 22, about: '1 SHELVES that hold something'", """
                about(1) = 0
                shelve(0, 12, 0) = 1
                about(1) = 0
                shelve(0, 4, 0) = 1
                about(1) = 1
                shelve(0, 8, 2) = 1
                about(1) = 1
                shelve(15, 4, 25) = OUTSIDE
                about(1) = 1
                mark(0, 0) = 0
                shelve(15, 11, 0) = 1
                about(1) = 2
                """,
                shelvesFromOneOn(), """
                about(1) = 16
                shelve(0, 12, 0) = 1
                about(1) = 15
                move(0, 15) = 1
                about(1) = 14
                """);
    }

    private static String shelvesFromOneOn() {
        StringBuilder lines = new StringBuilder();
        for (int shelf = 1; shelf < 15; shelf++) {
            lines.append("move(" + (shelf - 1) + ", " + shelf + ") = 1\nabout(1) = " + (shelf + 2) + "\n");
        }
        return lines.toString();
    }

    private static void aboutCauses() {
        Runs.runAfter("Promise 22, about: '2 .. 4 calls .. that ended with NULL, WRONG, INDEX'", FURNISHED, """
                count(13) = NULL
                read(13, 0, 4) = NULL
                write(13, 0, 4, 0) = NULL
                take(13, 0) = NULL
                give(13, 0) = NULL
                total(13) = NULL
                peak(13) = NULL
                turn(13) = NULL
                about(2) = 9
                about(3) = 0
                about(4) = 0
                count(11) = WRONG
                read(11, 0, 4) = WRONG
                write(11, 0, 4, 0) = WRONG
                take(11, 0) = WRONG
                give(11, 0) = WRONG
                total(11) = WRONG
                peak(11) = WRONG
                turn(11) = WRONG
                note(0, 0) = WRONG
                noted(0) = WRONG
                about(3) = 10
                read(8, 0, 4) = WRONG
                read(4, 0, 3) = WRONG
                write(8, 0, 4, 0) = WRONG
                write(4, 0, 5, 0) = WRONG
                give(4, 0) = WRONG
                give(8, 0) = WRONG
                give(9, 0) = WRONG
                give(10, 0) = WRONG
                total(0) = WRONG
                total(8) = WRONG
                peak(0) = WRONG
                peak(8) = WRONG
                about(3) = 22
                about(4) = 0
                read(4, 3, 4) = INDEX
                write(4, 3, 4, 0) = INDEX
                take(4, 3) = INDEX
                take(8, 3) = INDEX
                take(10, 3) = INDEX
                give(4, 3) = INDEX
                give(8, 3) = INDEX
                give(10, 3) = INDEX
                hold(10, 1) = 1
                note(1, 0) = INDEX
                noted(1) = INDEX
                about(2) = 9
                about(3) = 22
                about(4) = 10
                hold(12, 0) = 1
                give(4, 3) = WRONG
                about(3) = 23
                """);
    }

    private static void aboutCarries() {
        Runs.runAfter("Promise 22, about: 'a CARRY with that of its end'", FURNISHED, """
                carry(13, 0, 13, 0, 24) = 0
                about(2) = 2
                carry(4, 0, 13, 0, 24) = 0
                about(2) = 3
                carry(11, 0, 4, 0, 1) = 0
                about(3) = 1
                carry(4, 0, 11, 0, 1) = 0
                about(3) = 2
                carry(4, 0, 5, 0, 24) = 3
                about(4) = 1
                carry(4, 0, 5, 2, 24) = 1
                about(4) = 2
                carry(4, 0, 5, 0, 3) = 3
                carry(13, 0, 13, 0, 0) = 0
                carry(13, 0, 13, 0, 25) = OUTSIDE
                carry(13, 0, 16, 0, 1) = OUTSIDE
                about(2) = 3
                about(3) = 2
                about(4) = 2
                """);
    }

    private static void aboutRefusedAndOthers() {
        Runs.run("Promise 22, about: 'calls .. that ended with NULL, WRONG, INDEX', not others", """
                mark(0, NULL) = 0
                mark(0, WRONG) = 1
                mark(0, INDEX) = 2
                sign(0) = NULL
                sign(1) = WRONG
                sign(2) = INDEX
                shelve(0, 5, 2) = 1
                write(0, 0, 5, NULL) = 0
                read(0, 0, 5) = 0
                seen() = NULL
                total(0) = 0
                seen() = NULL
                take(0, 0) = 0
                weight() = NULL
                count(16) = OUTSIDE
                hold(9, 0) = OUTSIDE
                shelve(1, 4, 0) = 1
                peak(1) = NONE
                about(9) = OUTSIDE
                about(2) = 0
                about(3) = 0
                about(4) = 0
                carry(2, 0, 0, 0, 1) = 0
                ended() = NULL
                ended() = NULL
                about(2) = 1
                """);
    }

    /** No look can follow here: the object's calls are used up. */
    private static void aboutAtTheLastCall() {
        Due.part("Promise 22, about: 'of those since the beginning', up to the 512th call");
        for (int cause = 2; cause <= 4; cause++) {
            TideShelves x = new TideShelves();
            x.mark(0, 0);
            x.shelve(1, 11, 0);
            x.shelve(2, 4, 0);
            for (int call = 4; call < 512; call++) {
                Due.is("take(" + (cause - 2) + ", 0)", x.take(cause - 2, 0), TideShelves.NULL + 2 - cause);
            }
            Due.is("about(" + cause + ") as the 512th call", x.about(cause), 508);
        }
    }

    private static String fortyMarks() {
        StringBuilder lines = new StringBuilder();
        for (int number = 0; number < 40; number++) {
            lines.append("mark(" + number % 2 + ", " + (1000 + number) + ") = " + number + "\n");
        }
        return lines.toString();
    }
}
