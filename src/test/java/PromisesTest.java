/** Promises 1 to 22 of ../shared/DOC.md, one by one: ordinary inputs, the edges it names, and wrong inputs. */
public final class PromisesTest {
    private static final int NONE = -1, NULL = -11, WRONG = -12, INDEX = -13, OUTSIDE = -101, FULL = -102;
    private static final int TRUTH = 0, BYTE = 1, CHAR = 2, SHORT = 3, INT = 4, LONG = 5, FLOAT = 6, DOUBLE = 7;
    private static final int MARKS = 8, BUOYS = 9, PAGES = 10, ITSELF = 11, NOTHING = 12;
    private static final int[] NO_SHELVES = {-1, 16, Integer.MAX_VALUE, Integer.MIN_VALUE};
    private static final int[] NO_CELLS_OF_THREE = {-1, 3, Integer.MAX_VALUE, Integer.MIN_VALUE};

    public static void main(String[] args) {
        newObject();
        shelve();
        shelveRefused();
        mark();
        move();
        count();
        read();
        seen();
        write();
        take();
        give();
        giveCausesInOrder();
        giveThingsThatFit();
        hold();
        held();
        weight();
        note();
        noted();
        carry();
        carryWithinOneRow();
        carryRefused();
        ended();
        total();
        peak();
        turn();
        sign();
        about();
        aboutCountsEveryCall();
        Due.end();
    }

    private static void is(String call, long got, long want) {
        Due.is(call, got, want);
    }

    /** Shelf of each number holds what shelve's kind of that number makes, with three cells; mark 0 and buoy 1. */
    private static TideShelves furnished() {
        TideShelves x = new TideShelves();
        x.mark(0, 5);
        x.mark(1, -7);
        for (int kind = TRUTH; kind <= PAGES; kind++) {
            x.shelve(kind, kind, 3);
        }
        x.shelve(11, ITSELF, 0);
        x.shelve(12, ITSELF, 1);
        return x;
    }

    private static void cellIs(TideShelves x, int shelf, int i, int as, long want) {
        is("read(" + shelf + ", " + i + ", " + as + ")", x.read(shelf, i, as), 0);
        is("seen() of cell " + i + " on " + shelf, x.seen(), want);
    }

    private static void handIs(TideShelves x, int kind, long weight) {
        is("held()", x.held(), kind);
        is("weight()", x.weight(), weight);
    }

    private static void newObject() {
        Due.part("1 new object");
        TideShelves x = new TideShelves();
        for (int shelf = 0; shelf < 16; shelf++) {
            is("count(" + shelf + ")", x.count(shelf), NULL);
        }
        for (int mark = -1; mark <= 40; mark++) {
            is("sign(" + mark + ")", x.sign(mark), 0);
        }
        is("about(0)", x.about(0), 0);
        is("about(1)", x.about(1), 0);
        is("seen()", x.seen(), 0);
        is("ended()", x.ended(), 0);
        handIs(x, NOTHING, 0);
        x.shelve(0, INT, 1);
        x.mark(0, 3);
        is("another object's shelf", new TideShelves().count(0), NULL);
        is("another object's mark", new TideShelves().sign(0), 0);
    }

    private static void shelve() {
        Due.part("2 shelve");
        TideShelves x = furnished();
        for (int kind = TRUTH; kind <= PAGES; kind++) {
            for (int n : new int[] {0, 1, 24}) {
                is("shelve(15, " + kind + ", " + n + ")", x.shelve(15, kind, n), 1);
                is("count(15)", x.count(15), n);
            }
            is("take(15, 23)", x.take(15, 23), 0);
            handIs(x, kind < MARKS ? kind : NOTHING, 0);
        }
        is("shelve(15, 11, 1)", x.shelve(15, ITSELF, 1), 1);
        is("count(15)", x.count(15), WRONG);
        is("shelve(15, 12, 99)", x.shelve(15, NOTHING, 99), 1);
        is("shelve(15, 12, -1)", x.shelve(15, NOTHING, -1), 1);
        is("count(15)", x.count(15), NULL);
        x.write(INT, 1, INT, 7);
        is("a new one", x.shelve(INT, INT, 3), 1);
        cellIs(x, INT, 1, INT, 0);
    }

    private static void shelveRefused() {
        Due.part("2 shelve, refused");
        TideShelves x = furnished();
        for (int shelf : NO_SHELVES) {
            is("shelve(" + shelf + ", 4, 1)", x.shelve(shelf, INT, 1), OUTSIDE);
            is("shelve(" + shelf + ", 12, 1)", x.shelve(shelf, NOTHING, 1), OUTSIDE);
        }
        for (int kind : new int[] {-1, 13, Integer.MAX_VALUE, Integer.MIN_VALUE}) {
            is("shelve(4, " + kind + ", 1)", x.shelve(4, kind, 1), OUTSIDE);
        }
        for (int kind = TRUTH; kind <= PAGES; kind++) {
            for (int n : new int[] {-1, 25, Integer.MAX_VALUE, Integer.MIN_VALUE}) {
                is("shelve(4, " + kind + ", " + n + ")", x.shelve(4, kind, n), OUTSIDE);
            }
        }
        for (int n : new int[] {-1, 2, 24, 40, Integer.MIN_VALUE}) {
            is("shelve(4, 11, " + n + ")", x.shelve(4, ITSELF, n), OUTSIDE);
        }
        is("count(4), unchanged", x.count(4), 3);
    }

    private static void mark() {
        Due.part("3 mark");
        TideShelves x = new TideShelves();
        is("mark(-1, 1)", x.mark(-1, 1), OUTSIDE);
        is("mark(2, 1)", x.mark(2, 1), OUTSIDE);
        for (int number = 0; number < 40; number++) {
            is("mark " + number, x.mark(number % 2, 100 - number), number);
        }
        is("mark(0, 1), the 41st", x.mark(0, 1), FULL);
        is("mark(1, 1), the 41st", x.mark(1, 1), FULL);
        is("mark(2, 1), full", x.mark(2, 1), OUTSIDE);
        is("about(0)", x.about(0), 40);
        is("sign(39)", x.sign(39), 61);
        is("hold(8, 38)", x.hold(8, 38), 1);
        is("held()", x.held(), MARKS);
        is("hold(8, 39)", x.hold(8, 39), 1);
        is("held()", x.held(), BUOYS);
    }

    private static void move() {
        Due.part("4 move");
        TideShelves x = furnished();
        is("move(4, 13)", x.move(4, 13), 1);
        x.write(13, 0, INT, 9);
        cellIs(x, 4, 0, INT, 9);
        x.write(4, 2, INT, 8);
        cellIs(x, 13, 2, INT, 8);
        is("move(4, 4)", x.move(4, 4), 1);
        cellIs(x, 4, 0, INT, 9);
        x.shelve(4, NOTHING, 0);
        cellIs(x, 13, 0, INT, 9);
        is("move(14, 13), nothing", x.move(14, 13), 1);
        is("count(13)", x.count(13), NULL);
        is("move(11, 15), a mark", x.move(11, 15), 1);
        is("count(15)", x.count(15), WRONG);
        for (int shelf : NO_SHELVES) {
            is("move(" + shelf + ", 5)", x.move(shelf, 5), OUTSIDE);
            is("move(5, " + shelf + ")", x.move(5, shelf), OUTSIDE);
        }
        is("count(5)", x.count(5), 3);
    }

    private static void count() {
        Due.part("5 count");
        TideShelves x = furnished();
        for (int shelf = TRUTH; shelf <= PAGES; shelf++) {
            is("count(" + shelf + ")", x.count(shelf), 3);
        }
        is("count(11)", x.count(11), WRONG);
        is("count(12)", x.count(12), WRONG);
        is("count(13)", x.count(13), NULL);
        for (int shelf : NO_SHELVES) {
            is("count(" + shelf + ")", x.count(shelf), OUTSIDE);
        }
    }

    private static void read() {
        Due.part("6 read");
        TideShelves x = furnished();
        x.write(SHORT, 2, SHORT, -30000);
        cellIs(x, SHORT, 2, LONG, -30000);
        for (int i : NO_CELLS_OF_THREE) {
            is("read(3, " + i + ", 5)", x.read(SHORT, i, LONG), INDEX);
            is("INDEX ahead of WRONG kind, " + i, x.read(SHORT, i, BYTE), INDEX);
            for (int shelf = MARKS; shelf <= 12; shelf++) {
                is("no LOG ahead of INDEX, " + shelf + ", " + i, x.read(shelf, i, LONG), WRONG);
            }
            is("NULL ahead of INDEX", x.read(13, i, LONG), NULL);
        }
        is("read(3, 2, 1)", x.read(SHORT, 2, BYTE), WRONG);
        is("read(3, 2, 2)", x.read(SHORT, 2, CHAR), WRONG);
        for (int as : new int[] {-1, 8, Integer.MAX_VALUE, Integer.MIN_VALUE}) {
            is("read(3, 2, " + as + ")", x.read(SHORT, 2, as), OUTSIDE);
            is("OUTSIDE ahead of NULL, " + as, x.read(13, 2, as), OUTSIDE);
        }
        for (int shelf : NO_SHELVES) {
            is("read(" + shelf + ", 2, 5)", x.read(shelf, 2, LONG), OUTSIDE);
        }
        is("seen(), unchanged", x.seen(), -30000);
    }

    private static void seen() {
        Due.part("7 seen");
        TideShelves x = furnished();
        is("seen()", x.seen(), 0);
        x.write(FLOAT, 0, FLOAT, 0xc0200000L);
        is("seen() after write", x.seen(), 0);
        cellIs(x, FLOAT, 0, FLOAT, 0xffffffffc0200000L);
        cellIs(x, FLOAT, 0, DOUBLE, Double.doubleToRawLongBits(-2.5));
        is("seen() again", x.seen(), Double.doubleToRawLongBits(-2.5));
        x.write(CHAR, 0, CHAR, 0xffff);
        cellIs(x, CHAR, 0, CHAR, 65535);
    }

    private static void write() {
        Due.part("8 write");
        TideShelves x = furnished();
        is("write(5, 0, 2, 65535)", x.write(LONG, 0, CHAR, 65535), 0);
        cellIs(x, LONG, 0, LONG, 65535);
        is("write(6, 1, 5, max)", x.write(FLOAT, 1, LONG, Long.MAX_VALUE), 0);
        cellIs(x, FLOAT, 1, FLOAT, Float.floatToRawIntBits(9.223372E18f));
        for (int i : NO_CELLS_OF_THREE) {
            is("write(5, " + i + ", 5, 1)", x.write(LONG, i, LONG, 1), INDEX);
            is("INDEX ahead of WRONG kind, " + i, x.write(LONG, i, DOUBLE, 1), INDEX);
            for (int shelf = MARKS; shelf <= 12; shelf++) {
                is("no LOG ahead of INDEX, " + shelf + ", " + i, x.write(shelf, i, LONG, 1), WRONG);
            }
            is("NULL ahead of INDEX", x.write(13, i, LONG, 1), NULL);
        }
        is("write(5, 0, 6, 0)", x.write(LONG, 0, FLOAT, 0), WRONG);
        is("write(5, 0, 0, 0)", x.write(LONG, 0, TRUTH, 0), WRONG);
        for (int as : new int[] {-1, 8, Integer.MAX_VALUE, Integer.MIN_VALUE}) {
            is("write(5, 0, " + as + ", 1)", x.write(LONG, 0, as, 1), OUTSIDE);
        }
        for (int shelf : NO_SHELVES) {
            is("write(" + shelf + ", 0, 5, 1)", x.write(shelf, 0, LONG, 1), OUTSIDE);
        }
        is("no number ahead of NULL", x.write(13, 0, FLOAT, 0x7fc00000L), OUTSIDE);
        is("no number ahead of WRONG", x.write(11, 0, DOUBLE, -1), OUTSIDE);
        cellIs(x, LONG, 0, LONG, 65535);
    }

    private static void take() {
        Due.part("9 take");
        TideShelves x = furnished();
        x.write(BYTE, 1, BYTE, -77);
        is("take(1, 1)", x.take(BYTE, 1), 0);
        handIs(x, BYTE, -77);
        x.write(BYTE, 1, BYTE, 5);
        handIs(x, BYTE, -77);
        cellIs(x, BYTE, 1, BYTE, 5);
        for (int shelf = TRUTH; shelf <= PAGES; shelf++) {
            for (int i : NO_CELLS_OF_THREE) {
                is("take(" + shelf + ", " + i + ")", x.take(shelf, i), INDEX);
            }
        }
        is("take(11, 0)", x.take(11, 0), WRONG);
        is("WRONG ahead of INDEX", x.take(12, -1), WRONG);
        is("take(13, 0)", x.take(13, 0), NULL);
        is("take(13, -1)", x.take(13, -1), NULL);
        for (int shelf : NO_SHELVES) {
            is("take(" + shelf + ", 0)", x.take(shelf, 0), OUTSIDE);
        }
        handIs(x, BYTE, -77);
        is("take(8, 0)", x.take(MARKS, 0), 0);
        handIs(x, NOTHING, 0);
        x.hold(8, 1);
        x.give(MARKS, 2);
        x.hold(12, 0);
        is("take(8, 2)", x.take(MARKS, 2), 0);
        handIs(x, BUOYS, 1);
    }

    private static void give() {
        Due.part("10 give");
        TideShelves x = furnished();
        x.hold(CHAR, 40000);
        is("give(4, 2)", x.give(INT, 2), 0);
        handIs(x, CHAR, 40000);
        cellIs(x, INT, 2, INT, 40000);
        is("give(6, 2)", x.give(FLOAT, 2), 0);
        cellIs(x, FLOAT, 2, FLOAT, Float.floatToRawIntBits(40000f));
        is("give(3, 2)", x.give(SHORT, 2), WRONG);
        cellIs(x, SHORT, 2, SHORT, 0);
        for (int shelf : NO_SHELVES) {
            is("give(" + shelf + ", 0)", x.give(shelf, 0), OUTSIDE);
        }
        x.hold(10, 2);
        is("give(10, 0)", x.give(PAGES, 0), 0);
        x.note(1, 77);
        x.hold(12, 0);
        x.take(PAGES, 0);
        x.noted(1);
        is("the page in the row is the one that was held", x.seen(), 77);
    }

    private static void giveCausesInOrder() {
        Due.part("10 give, causes in order");
        TideShelves x = furnished();
        long[][] hands = {{INT, 5}, {8, 0}, {8, 1}, {10, 2}, {12, 0}};
        for (long[] hand : hands) {
            x.hold((int) hand[0], hand[1]);
            for (int i : NO_CELLS_OF_THREE) {
                is("give(13, " + i + ")", x.give(13, i), NULL);
                is("give(11, " + i + ")", x.give(11, i), WRONG);
                is("give(4, " + i + ") of " + hand[0], x.give(INT, i), hand[0] == NOTHING ? WRONG : INDEX);
                is("give(1, " + i + ") of " + hand[0], x.give(BYTE, i), hand[0] == NOTHING ? WRONG : INDEX);
                for (int shelf = MARKS; shelf <= PAGES; shelf++) {
                    is("give(" + shelf + ", " + i + ") of " + hand[0], x.give(shelf, i), INDEX);
                }
            }
            is("give(13, 0)", x.give(13, 0), NULL);
            is("give(12, 0)", x.give(12, 0), WRONG);
            is("give(4, 0) of " + hand[0], x.give(INT, 0), hand[0] == INT ? 0 : WRONG);
        }
    }

    private static void giveThingsThatFit() {
        Due.part("10 give, what fits");
        TideShelves x = furnished();
        long[][] hands = {{INT, 5}, {8, 0}, {8, 1}, {10, 2}, {12, 0}};
        int[][] due = {{WRONG, WRONG, WRONG}, {0, WRONG, WRONG}, {0, 0, WRONG}, {WRONG, WRONG, 0}, {0, 0, 0}};
        for (int h = 0; h < hands.length; h++) {
            x.hold((int) hands[h][0], hands[h][1]);
            for (int shelf = MARKS; shelf <= PAGES; shelf++) {
                is("give(" + shelf + ", 1) of " + hands[h][0], x.give(shelf, 1), due[h][shelf - MARKS]);
            }
        }
        x.hold(8, 1);
        x.give(BUOYS, 0);
        x.take(BUOYS, 0);
        handIs(x, BUOYS, 1);
        x.hold(12, 0);
        is("nothing takes the buoy's place", x.give(BUOYS, 0), 0);
        x.hold(INT, 1);
        x.take(BUOYS, 0);
        handIs(x, NOTHING, 0);
    }

    private static void hold() {
        Due.part("11 hold");
        TideShelves x = furnished();
        for (int kind = TRUTH; kind <= DOUBLE; kind++) {
            is("hold(" + kind + ", 1)", x.hold(kind, 1), 1);
            handIs(x, kind, 1);
        }
        is("hold(8, 0)", x.hold(8, 0), 1);
        handIs(x, MARKS, 0);
        is("hold(8, 1)", x.hold(8, 1), 1);
        handIs(x, BUOYS, 1);
        for (long bits : new long[] {-1, 2, 40, 0x100000000L, 0x100000001L, Long.MIN_VALUE}) {
            is("hold(8, " + bits + ")", x.hold(8, bits), OUTSIDE);
        }
        for (long bits : new long[] {-1, 25, 0x100000000L, 0x100000001L, Long.MIN_VALUE, Long.MAX_VALUE}) {
            is("hold(10, " + bits + ")", x.hold(10, bits), OUTSIDE);
        }
        for (int kind : new int[] {-1, 9, 11, 13, Integer.MAX_VALUE, Integer.MIN_VALUE}) {
            is("hold(" + kind + ", 0)", x.hold(kind, 0), OUTSIDE);
        }
        is("hold(6, NaN)", x.hold(FLOAT, 0x7fc00000L), OUTSIDE);
        is("hold(7, NaN)", x.hold(DOUBLE, 0x7ff8000000000000L), OUTSIDE);
        handIs(x, BUOYS, 1);
        is("hold(10, 0)", x.hold(10, 0), 1);
        handIs(x, PAGES, 0);
        is("hold(10, 24)", x.hold(10, 24), 1);
        handIs(x, PAGES, 24);
        x.note(0, 3);
        is("hold(10, 24), a new one", x.hold(10, 24), 1);
        is("noted(0)", x.noted(0), 0);
        is("seen()", x.seen(), 0);
        is("hold(12, 99)", x.hold(12, 99), 1);
        handIs(x, NOTHING, 0);
    }

    private static void held() {
        Due.part("12 held");
        TideShelves x = furnished();
        is("held()", x.held(), NOTHING);
        int[] kinds = {TRUTH, BYTE, CHAR, SHORT, INT, LONG, FLOAT, DOUBLE, NOTHING, NOTHING, NOTHING};
        for (int shelf = TRUTH; shelf <= PAGES; shelf++) {
            x.take(shelf, 0);
            is("held() from " + shelf, x.held(), kinds[shelf]);
        }
        x.hold(8, 1);
        x.give(MARKS, 0);
        x.take(MARKS, 0);
        is("held(), a buoy from MARKS", x.held(), BUOYS);
    }

    private static void weight() {
        Due.part("13 weight");
        TideShelves x = furnished();
        is("weight()", x.weight(), 0);
        x.hold(FLOAT, 0xbf800000L);
        is("weight() of a FLOAT", x.weight(), (int) 0xbf800000L);
        x.hold(LONG, Long.MIN_VALUE);
        is("weight() of a LONG", x.weight(), Long.MIN_VALUE);
        x.hold(8, 1);
        is("weight() of a MARK", x.weight(), 1);
        x.hold(10, 7);
        is("weight() of a PAGE", x.weight(), 7);
        x.hold(12, 5);
        is("weight() of nothing", x.weight(), 0);
    }

    private static void note() {
        Due.part("14 note");
        TideShelves x = furnished();
        is("note(0, 1) of nothing", x.note(0, 1), WRONG);
        x.hold(INT, 4);
        is("note(0, 1) of a number", x.note(0, 1), WRONG);
        x.hold(8, 0);
        is("note(-1, 1) of a mark", x.note(-1, 1), WRONG);
        x.hold(10, 3);
        for (int i : NO_CELLS_OF_THREE) {
            is("note(" + i + ", 1)", x.note(i, 1), INDEX);
        }
        is("note(2, -9)", x.note(2, -9), 0);
        is("seen(), unchanged", x.seen(), 0);
        x.noted(2);
        is("seen()", x.seen(), -9);
        x.hold(10, 0);
        is("note(0, 1) of an empty page", x.note(0, 1), INDEX);
    }

    private static void noted() {
        Due.part("15 noted");
        TideShelves x = furnished();
        is("noted(0) of nothing", x.noted(0), WRONG);
        x.hold(DOUBLE, 4);
        is("noted(-1) of a number", x.noted(-1), WRONG);
        x.hold(10, 3);
        x.note(0, Integer.MIN_VALUE);
        is("noted(0)", x.noted(0), 0);
        is("seen()", x.seen(), Integer.MIN_VALUE);
        for (int i : NO_CELLS_OF_THREE) {
            is("noted(" + i + ")", x.noted(i), INDEX);
        }
        is("seen(), unchanged", x.seen(), Integer.MIN_VALUE);
        is("noted(1)", x.noted(1), 0);
        is("seen()", x.seen(), 0);
    }

    private static void carry() {
        Due.part("16 carry");
        TideShelves x = furnished();
        for (int i = 0; i < 3; i++) {
            x.write(BYTE, i, BYTE, 10 + i);
        }
        is("carry(1, 0, 4, 0, 3)", x.carry(BYTE, 0, INT, 0, 3), 3);
        cellIs(x, INT, 0, INT, 10);
        cellIs(x, INT, 2, INT, 12);
        handIs(x, BYTE, 12);
        is("carry(1, 1, 5, 0, 24)", x.carry(BYTE, 1, LONG, 0, 24), 2);
        is("ended()", x.ended(), INDEX);
        cellIs(x, LONG, 1, LONG, 12);
        cellIs(x, LONG, 2, LONG, 0);
        is("carry(1, 0, 3, 1, 3)", x.carry(BYTE, 0, SHORT, 1, 3), 2);
        is("ended()", x.ended(), INDEX - 100);
        handIs(x, BYTE, 12);
        is("carry(1, 1, 2, 0, 1)", x.carry(BYTE, 1, CHAR, 0, 1), 0);
        handIs(x, BYTE, 11);
        x.hold(INT, 1);
        is("carry(13, 0, 4, 0, 1)", x.carry(13, 0, INT, 0, 1), 0);
        handIs(x, INT, 1);
        is("carry(1, 0, 4, 0, 0)", x.carry(BYTE, 0, INT, 0, 0), 0);
        handIs(x, INT, 1);
        x.hold(8, 1);
        x.give(MARKS, 0);
        x.hold(8, 0);
        x.give(MARKS, 2);
        is("carry(8, 0, 9, 0, 3)", x.carry(MARKS, 0, BUOYS, 0, 3), 2);
        is("ended()", x.ended(), WRONG - 100);
        handIs(x, MARKS, 0);
        x.take(BUOYS, 0);
        handIs(x, BUOYS, 1);
    }

    private static void carryWithinOneRow() {
        Due.part("16 carry, within one row");
        TideShelves x = furnished();
        for (int i = 0; i < 3; i++) {
            x.write(INT, i, INT, i + 1);
        }
        is("carry(4, 0, 4, 1, 2)", x.carry(INT, 0, INT, 1, 2), 2);
        for (int i = 0; i < 3; i++) {
            cellIs(x, INT, i, INT, 1);
        }
    }

    private static void carryRefused() {
        Due.part("16 carry, refused");
        TideShelves x = furnished();
        x.carry(13, 0, INT, 0, 1);
        x.hold(INT, 3);
        for (int shelf : NO_SHELVES) {
            is("carry(" + shelf + ", 0, 4, 0, 1)", x.carry(shelf, 0, INT, 0, 1), OUTSIDE);
            is("carry(4, 0, " + shelf + ", 0, 1)", x.carry(INT, 0, shelf, 0, 1), OUTSIDE);
        }
        for (int n : new int[] {-1, 25, Integer.MAX_VALUE, Integer.MIN_VALUE}) {
            is("carry(4, 0, 5, 0, " + n + ")", x.carry(INT, 0, LONG, 0, n), OUTSIDE);
        }
        is("ended()", x.ended(), NULL);
        handIs(x, INT, 3);
        for (int i : NO_CELLS_OF_THREE) {
            is("carry(4, " + i + ", 5, 0, 24)", x.carry(INT, i, LONG, 0, 24), 0);
            is("ended()", x.ended(), INDEX);
            is("carry(4, 0, 5, " + i + ", 24)", x.carry(INT, 0, LONG, i, 24), 0);
            is("ended()", x.ended(), INDEX - 100);
        }
    }

    private static void ended() {
        Due.part("17 ended");
        TideShelves x = furnished();
        is("ended()", x.ended(), 0);
        int[][] runs = {{13, INT, NULL}, {11, INT, WRONG}, {INT, 13, NULL - 100}, {INT, 11, WRONG - 100},
                {INT, LONG, 0}, {LONG, INT, WRONG - 100}, {PAGES, INT, WRONG - 100}, {PAGES, MARKS, 0}};
        for (int[] run : runs) {
            x.carry(run[0], 0, run[1], 0, 3);
            is("ended() of " + run[0] + " to " + run[1], x.ended(), run[2]);
        }
        x.carry(13, 0, INT, 0, 1);
        x.take(INT, 9);
        x.carry(INT, 0, INT, 0, 25);
        is("ended(), not of other calls or refused ones", x.ended(), NULL);
        x.carry(13, 0, 13, 0, 0);
        is("ended(), of none", x.ended(), 0);
    }

    private static void total() {
        Due.part("18 total");
        TideShelves x = furnished();
        x.write(CHAR, 0, CHAR, 65535);
        x.write(CHAR, 1, CHAR, 2);
        is("total(2)", x.total(CHAR), 0);
        is("seen()", x.seen(), 65537);
        x.write(LONG, 0, LONG, Long.MAX_VALUE);
        x.write(LONG, 2, LONG, 2);
        is("total(5)", x.total(LONG), 0);
        is("seen(), wrapped", x.seen(), Long.MIN_VALUE + 1);
        for (int shelf : new int[] {TRUTH, FLOAT, DOUBLE, MARKS, BUOYS, PAGES, 11, 12}) {
            is("total(" + shelf + ")", x.total(shelf), WRONG);
        }
        is("total(13)", x.total(13), NULL);
        for (int shelf : NO_SHELVES) {
            is("total(" + shelf + ")", x.total(shelf), OUTSIDE);
        }
        is("seen(), unchanged", x.seen(), Long.MIN_VALUE + 1);
        for (int kind = TRUTH; kind <= PAGES; kind++) {
            cellIs(x, CHAR, 1, CHAR, 2);
            x.shelve(14, kind, 0);
            is("total of no cells, " + kind, x.total(14), 0);
            is("seen(), " + kind, x.seen(), 0);
        }
    }

    private static void peak() {
        Due.part("19 peak");
        TideShelves x = furnished();
        for (int shelf = BYTE; shelf <= DOUBLE; shelf++) {
            is("peak(" + shelf + "), all the same", x.peak(shelf), 0);
            x.write(shelf, 1, shelf, 9);
            x.write(shelf, 2, shelf, 9);
            is("peak(" + shelf + ")", x.peak(shelf), 1);
        }
        peakOf(x, INT, 2, -3, -2, -1);
        peakOf(x, LONG, 0, (1L << 53), (1L << 53) + 1, 5);
        peakOf(x, LONG, 1, (1L << 53), (1L << 53) + 2, (1L << 53) + 3 - 1);
        peakOf(x, DOUBLE, 0, Long.MIN_VALUE, 0, Long.MIN_VALUE);
        peakOf(x, DOUBLE, 2, Double.doubleToRawLongBits(-1), Double.doubleToRawLongBits(-2), Long.MIN_VALUE);
        peakOf(x, DOUBLE, 1, 0xfff0000000000000L, Double.doubleToRawLongBits(-1e300), 0xfff0000000000000L);
        peakOf(x, FLOAT, 1, 0x7f7fffffL, 0x7f800000L, 0xff800000L);
        peakOf(x, FLOAT, 2, 0x80000001L, 0x80000002L, 0x80000000L);
        for (int shelf : new int[] {TRUTH, MARKS, BUOYS, PAGES, 11, 12}) {
            is("peak(" + shelf + ")", x.peak(shelf), WRONG);
        }
        is("peak(13)", x.peak(13), NULL);
        for (int shelf : NO_SHELVES) {
            is("peak(" + shelf + ")", x.peak(shelf), OUTSIDE);
        }
        for (int kind = TRUTH; kind <= PAGES; kind++) {
            x.shelve(14, kind, 0);
            is("peak of no cells, " + kind, x.peak(14), NONE);
        }
        is("seen(), unchanged", x.seen(), 0);
    }

    private static void peakOf(TideShelves x, int kind, int want, long... bits) {
        for (int i = 0; i < bits.length; i++) {
            x.write(kind, i, kind, bits[i]);
        }
        is("peak(" + kind + ") of " + java.util.Arrays.toString(bits), x.peak(kind), want);
    }

    private static void turn() {
        Due.part("20 turn");
        TideShelves x = furnished();
        for (int n : new int[] {0, 1, 2, 5, 24}) {
            x.shelve(14, LONG, n);
            for (int i = 0; i < n; i++) {
                x.write(14, i, LONG, i + 1);
            }
            is("turn(14)", x.turn(14), 1);
            for (int i = 0; i < n; i++) {
                cellIs(x, 14, i, LONG, n - i);
            }
        }
        for (int shelf : new int[] {MARKS, BUOYS, PAGES}) {
            x.hold(shelf == PAGES ? 10 : 8, 1);
            x.give(shelf, 0);
            is("turn(" + shelf + ")", x.turn(shelf), 1);
            x.take(shelf, 2);
            handIs(x, shelf == PAGES ? PAGES : BUOYS, 1);
            x.take(shelf, 0);
            handIs(x, NOTHING, 0);
        }
        is("turn(11)", x.turn(11), WRONG);
        is("turn(13)", x.turn(13), NULL);
        for (int shelf : NO_SHELVES) {
            is("turn(" + shelf + ")", x.turn(shelf), OUTSIDE);
        }
    }

    private static void sign() {
        Due.part("21 sign");
        TideShelves x = new TideShelves();
        x.mark(0, Integer.MIN_VALUE);
        x.mark(1, NULL);
        is("sign(0)", x.sign(0), Integer.MIN_VALUE);
        is("sign(1)", x.sign(1), NULL);
        for (int mark : new int[] {-1, 2, 39, 40, Integer.MAX_VALUE, Integer.MIN_VALUE}) {
            is("sign(" + mark + ")", x.sign(mark), 0);
        }
        is("about(2), not of a sign", x.about(2), 0);
    }

    private static void about() {
        Due.part("22 about");
        TideShelves x = furnished();
        is("about(0)", x.about(0), 2);
        is("about(1)", x.about(1), 13);
        x.move(0, 15);
        is("about(1)", x.about(1), 14);
        x.shelve(0, NOTHING, 0);
        x.move(14, 1);
        is("about(1)", x.about(1), 12);
        for (int what : new int[] {-1, 5, Integer.MAX_VALUE, Integer.MIN_VALUE}) {
            is("about(" + what + ")", x.about(what), OUTSIDE);
        }
        x.count(16);
        x.carry(0, 0, 1, 0, 25);
        x.hold(9, 0);
        for (int what = 2; what <= 4; what++) {
            is("about(" + what + "), none told", x.about(what), 0);
        }
    }

    private static void aboutCountsEveryCall() {
        Due.part("22 about, causes");
        TideShelves x = furnished();
        told(x, NULL, x.count(13), x.read(13, 0, INT), x.write(13, 0, INT, 1), x.take(13, 0), x.give(13, 0),
                x.total(13), x.peak(13), x.turn(13));
        told(x, WRONG, x.count(11), x.read(11, 0, INT), x.write(11, 0, INT, 1), x.take(11, 0), x.give(11, 0),
                x.total(11), x.peak(11), x.turn(11), x.note(0, 1), x.noted(0), x.read(INT, 0, BYTE),
                x.write(BYTE, 0, INT, 1), x.give(INT, 0), x.total(FLOAT), x.peak(TRUTH));
        x.hold(10, 1);
        told(x, INDEX, x.read(INT, 3, INT), x.write(INT, 3, INT, 1), x.take(INT, 3), x.give(INT, 3), x.note(1, 1),
                x.noted(1));
        x.carry(13, 0, INT, 0, 2);
        x.carry(INT, 0, 13, 0, 2);
        x.carry(11, 0, INT, 0, 2);
        x.carry(INT, 0, BYTE, 0, 2);
        x.carry(INT, 0, LONG, 0, 4);
        x.carry(INT, 0, LONG, 2, 2);
        x.carry(INT, 0, LONG, 0, 3);
        x.ended();
        is("about(2)", x.about(2), 8 + 2);
        is("about(3)", x.about(3), 15 + 2);
        is("about(4)", x.about(4), 6 + 2);
    }

    private static void told(TideShelves x, int cause, int... answers) {
        for (int i = 0; i < answers.length; i++) {
            is("answer " + i + " of " + cause, answers[i], cause);
        }
        is("about(" + (NULL - cause + 2) + ")", x.about(NULL - cause + 2), answers.length);
    }
}
