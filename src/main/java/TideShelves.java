/** Shelves of a tide station. What each call promises is told, by number, in ../shared/DOC.md. */
public final class TideShelves {
    public static final int NONE = -1, NULL = -11, WRONG = -12, INDEX = -13, OUTSIDE = -101, FULL = -102;

    private static final int TRUTH = 0, BYTE = 1, CHAR = 2, SHORT = 3, INT = 4, LONG = 5, FLOAT = 6, DOUBLE = 7;
    private static final int MARKS = 8, BUOYS = 9, PAGES = 10, MARK_ITSELF = 11, NOTHING = 12;
    private static final int SHELF_COUNT = 16, MOST_CELLS = 24, MOST_MARKS = 40;
    private static final int DONE = 0, TOLD_BY_GIVING = 100;

    private final Thing[] shelves;
    private final Mark[] marks;
    private final Hand hand;
    private int markCount;
    private long lastSeen;
    private int carryEnd;
    private int nulls;
    private int wrongs;
    private int indexes;

    public TideShelves() {
        shelves = new Thing[SHELF_COUNT];
        marks = new Mark[MOST_MARKS];
        hand = new Hand();
    }

    public int shelve(int shelf, int kind, int n) {
        if (!isShelf(shelf) || kind < TRUTH || kind > NOTHING) {
            return OUTSIDE;
        }
        if (kind == NOTHING) {
            shelves[shelf] = null;
            return 1;
        }
        Thing thing = kind == MARK_ITSELF ? markNumbered(n) : newRow(kind, n);
        if (thing == null) {
            return OUTSIDE;
        }
        shelves[shelf] = thing;
        return 1;
    }

    public int mark(int sort, int sign) {
        if (sort != 0 && sort != 1) {
            return OUTSIDE;
        }
        if (markCount >= MOST_MARKS) {
            return FULL;
        }
        int number = markCount;
        marks[number] = new Mark(number, sign, sort == 1);
        markCount = number + 1;
        return number;
    }

    public int move(int from, int to) {
        if (!isShelf(from) || !isShelf(to)) {
            return OUTSIDE;
        }
        shelves[to] = shelves[from];
        return 1;
    }

    public int count(int shelf) {
        if (!isShelf(shelf)) {
            return OUTSIDE;
        }
        Thing thing = shelves[shelf];
        if (thing instanceof Row row) {
            return row.size();
        }
        return tell(causeOfMissing(thing));
    }

    public int read(int shelf, int i, int as) {
        if (!isShelf(shelf) || !isKind(as)) {
            return OUTSIDE;
        }
        Thing thing = shelves[shelf];
        if (!(thing instanceof Log log)) {
            return tell(causeOfMissing(thing));
        }
        if (i < 0 || i >= log.cells.length) {
            return tell(INDEX);
        }
        if (!Kinds.goesFor(log.kind, as)) {
            return tell(WRONG);
        }
        lastSeen = Kinds.widened(log.kind, as, log.cells[i]);
        return DONE;
    }

    public long seen() {
        return lastSeen;
    }

    public int write(int shelf, int i, int as, long bits) {
        if (!isShelf(shelf) || !isKind(as)) {
            return OUTSIDE;
        }
        long number = Kinds.cut(as, bits);
        if (Kinds.isNoNumber(as, number)) {
            return OUTSIDE;
        }
        Thing thing = shelves[shelf];
        if (thing instanceof Log log) {
            return tell(log.enter(i, as, number));
        }
        return tell(causeOfMissing(thing));
    }

    public int take(int shelf, int i) {
        if (!isShelf(shelf)) {
            return OUTSIDE;
        }
        return tell(liftFrom(shelf, i));
    }

    public int give(int shelf, int i) {
        if (!isShelf(shelf)) {
            return OUTSIDE;
        }
        return tell(layOn(shelf, i));
    }

    public int hold(int kind, long bits) {
        if (isKind(kind)) {
            return holdNumber(kind, bits);
        }
        if (kind == MARKS) {
            return holdMark(bits);
        }
        if (kind == PAGES) {
            return holdNewPage(bits);
        }
        if (kind == NOTHING) {
            hand.grasp(NOTHING, 0, null, null);
            return 1;
        }
        return OUTSIDE;
    }

    public int held() {
        return hand.kind;
    }

    public long weight() {
        Page page = hand.page;
        return page == null ? hand.bits : page.ints.length;
    }

    public int note(int i, int v) {
        Page page = hand.page;
        if (page == null) {
            return tell(WRONG);
        }
        if (i < 0 || i >= page.ints.length) {
            return tell(INDEX);
        }
        page.ints[i] = v;
        return DONE;
    }

    public int noted(int i) {
        Page page = hand.page;
        if (page == null) {
            return tell(WRONG);
        }
        if (i < 0 || i >= page.ints.length) {
            return tell(INDEX);
        }
        lastSeen = page.ints[i];
        return DONE;
    }

    public int carry(int from, int i, int to, int k, int n) {
        if (!isShelf(from) || !isShelf(to) || n < 0 || n > MOST_CELLS) {
            return OUTSIDE;
        }
        carryEnd = DONE;
        for (int went = 0; went < n; went++) {
            int cause = liftFrom(from, i + went);
            if (cause != DONE) {
                carryEnd = tell(cause);
                return went;
            }
            cause = layOn(to, k + went);
            if (cause != DONE) {
                carryEnd = tell(cause) - TOLD_BY_GIVING;
                return went;
            }
        }
        return n;
    }

    public int ended() {
        return carryEnd;
    }

    public int total(int shelf) {
        if (!isShelf(shelf)) {
            return OUTSIDE;
        }
        Thing thing = shelves[shelf];
        if (!(thing instanceof Row row)) {
            return tell(causeOfMissing(thing));
        }
        if (row.size() == 0) {
            lastSeen = 0;
            return DONE;
        }
        if (!(row instanceof Log log) || !Kinds.goesFor(log.kind, LONG)) {
            return tell(WRONG);
        }
        lastSeen = log.sum();
        return DONE;
    }

    public int peak(int shelf) {
        if (!isShelf(shelf)) {
            return OUTSIDE;
        }
        Thing thing = shelves[shelf];
        if (!(thing instanceof Row row)) {
            return tell(causeOfMissing(thing));
        }
        if (row.size() == 0) {
            return NONE;
        }
        if (!(row instanceof Log log) || !Kinds.goesFor(log.kind, DOUBLE)) {
            return tell(WRONG);
        }
        return log.placeOfGreatest();
    }

    public int turn(int shelf) {
        if (!isShelf(shelf)) {
            return OUTSIDE;
        }
        Thing thing = shelves[shelf];
        if (thing instanceof Row row) {
            row.reverse();
            return 1;
        }
        return tell(causeOfMissing(thing));
    }

    public int sign(int mark) {
        Mark found = markNumbered(mark);
        return found == null ? 0 : found.sign;
    }

    public int about(int what) {
        switch (what) {
            case 0:
                return markCount;
            case 1:
                return filledShelves();
            case 2:
                return nulls;
            case 3:
                return wrongs;
            case 4:
                return indexes;
            default:
                return OUTSIDE;
        }
    }

    private static boolean isShelf(int shelf) {
        return shelf >= 0 && shelf < SHELF_COUNT;
    }

    private static boolean isKind(int kind) {
        return kind >= TRUTH && kind <= DOUBLE;
    }

    /** The row that shelve asks for, or null if there is none with n cells. */
    private static Row newRow(int kind, int n) {
        if (n < 0 || n > MOST_CELLS) {
            return null;
        }
        if (kind == MARKS || kind == BUOYS) {
            return new MarkRow(kind == BUOYS, n);
        }
        if (kind == PAGES) {
            return new PageRow(n);
        }
        return new Log(kind, n);
    }

    /** The mark, or null if there is none; a long, so that hold cuts no number down to a mark's. */
    private Mark markNumbered(long number) {
        if (number < 0 || number >= markCount || number >= marks.length) {
            return null;
        }
        return marks[(int) number];
    }

    /** The cause when a shelf does not hold the sort of thing that a call needs. */
    private static int causeOfMissing(Thing thing) {
        return thing == null ? NULL : WRONG;
    }

    /** Counts a cause for about; a carry counts only the one that ended it, so it tells by itself. */
    private int tell(int cause) {
        if (cause == NULL) {
            nulls++;
        } else if (cause == WRONG) {
            wrongs++;
        } else if (cause == INDEX) {
            indexes++;
        }
        return cause;
    }

    private int liftFrom(int shelf, int i) {
        Thing thing = shelves[shelf];
        if (thing instanceof Row row) {
            return row.lift(i, hand);
        }
        return causeOfMissing(thing);
    }

    private int layOn(int shelf, int i) {
        Thing thing = shelves[shelf];
        if (thing instanceof Row row) {
            return row.lay(i, hand);
        }
        return causeOfMissing(thing);
    }

    private int holdNumber(int kind, long bits) {
        long number = Kinds.cut(kind, bits);
        if (Kinds.isNoNumber(kind, number)) {
            return OUTSIDE;
        }
        hand.grasp(kind, number, null, null);
        return 1;
    }

    private int holdMark(long number) {
        Mark mark = markNumbered(number);
        if (mark == null) {
            return OUTSIDE;
        }
        hand.graspMark(mark);
        return 1;
    }

    private int holdNewPage(long length) {
        if (length < 0 || length > MOST_CELLS) {
            return OUTSIDE;
        }
        hand.graspPage(new Page((int) length));
        return 1;
    }

    private int filledShelves() {
        int filled = 0;
        for (int shelf = 0; shelf < shelves.length; shelf++) {
            if (shelves[shelf] != null) {
                filled++;
            }
        }
        return filled;
    }

    /** What a shelf can hold. */
    private abstract static class Thing {
    }

    private static final class Mark extends Thing {
        private final int number;
        private final int sign;
        private final boolean buoy;

        private Mark(int number, int sign, boolean buoy) {
            this.number = number;
            this.sign = sign;
            this.buoy = buoy;
        }
    }

    private static final class Page {
        private final int[] ints;

        private Page(int length) {
            ints = new int[length];
        }
    }

    /** One for each object and used again, so that a carry makes nothing. */
    private static final class Hand {
        private int kind;
        private long bits;
        private Mark mark;
        private Page page;

        private Hand() {
            kind = NOTHING;
        }

        private void grasp(int newKind, long newBits, Mark newMark, Page newPage) {
            kind = newKind;
            bits = newBits;
            mark = newMark;
            page = newPage;
        }

        private void graspMark(Mark newMark) {
            if (newMark == null) {
                grasp(NOTHING, 0, null, null);
            } else {
                grasp(newMark.buoy ? BUOYS : MARKS, newMark.number, newMark, null);
            }
        }

        private void graspPage(Page newPage) {
            grasp(newPage == null ? NOTHING : PAGES, 0, null, newPage);
        }
    }

    private abstract static class Row extends Thing {
        abstract int size();

        /** Takes cell i into the hand: DONE, or the cause. */
        abstract int lift(int i, Hand hand);

        /** Gives what the hand holds to cell i: DONE, or the cause. */
        abstract int lay(int i, Hand hand);

        abstract void reverse();
    }

    private static final class Log extends Row {
        private final int kind;
        private final long[] cells;

        private Log(int kind, int n) {
            this.kind = kind;
            cells = new long[n];
        }

        int size() {
            return cells.length;
        }

        int lift(int i, Hand hand) {
            if (i < 0 || i >= cells.length) {
                return INDEX;
            }
            hand.grasp(kind, cells[i], null, null);
            return DONE;
        }

        int lay(int i, Hand hand) {
            if (hand.kind == NOTHING) {
                return WRONG;
            }
            return enter(i, hand.kind, hand.bits);
        }

        void reverse() {
            for (int low = 0, high = cells.length - 1; low < high; low++, high--) {
                long kept = cells[low];
                cells[low] = cells[high];
                cells[high] = kept;
            }
        }

        private int enter(int i, int as, long number) {
            if (i < 0 || i >= cells.length) {
                return INDEX;
            }
            if (!Kinds.goesFor(as, kind)) {
                return WRONG;
            }
            cells[i] = Kinds.widened(as, kind, number);
            return DONE;
        }

        private long sum() {
            long sum = 0;
            for (int i = 0; i < cells.length; i++) {
                sum += Kinds.widened(kind, LONG, cells[i]);
            }
            return sum;
        }

        /** Compares what the cells are as DOUBLE, since two LONGs may be one there. */
        private int placeOfGreatest() {
            int place = NONE;
            long greatest = 0;
            for (int i = 0; i < cells.length; i++) {
                long rank = Kinds.rankOfDouble(Kinds.widened(kind, DOUBLE, cells[i]));
                if (place == NONE || rank > greatest) {
                    place = i;
                    greatest = rank;
                }
            }
            return place;
        }
    }

    private static final class MarkRow extends Row {
        private final boolean buoysOnly;
        private final Mark[] cells;

        private MarkRow(boolean buoysOnly, int n) {
            this.buoysOnly = buoysOnly;
            cells = new Mark[n];
        }

        int size() {
            return cells.length;
        }

        int lift(int i, Hand hand) {
            if (i < 0 || i >= cells.length) {
                return INDEX;
            }
            hand.graspMark(cells[i]);
            return DONE;
        }

        int lay(int i, Hand hand) {
            if (i < 0 || i >= cells.length) {
                return INDEX;
            }
            boolean fits = hand.kind == NOTHING || hand.kind == BUOYS || (hand.kind == MARKS && !buoysOnly);
            if (!fits) {
                return WRONG;
            }
            cells[i] = hand.mark;
            return DONE;
        }

        void reverse() {
            for (int low = 0, high = cells.length - 1; low < high; low++, high--) {
                Mark kept = cells[low];
                cells[low] = cells[high];
                cells[high] = kept;
            }
        }
    }

    private static final class PageRow extends Row {
        private final Page[] cells;

        private PageRow(int n) {
            cells = new Page[n];
        }

        int size() {
            return cells.length;
        }

        int lift(int i, Hand hand) {
            if (i < 0 || i >= cells.length) {
                return INDEX;
            }
            hand.graspPage(cells[i]);
            return DONE;
        }

        int lay(int i, Hand hand) {
            if (i < 0 || i >= cells.length) {
                return INDEX;
            }
            if (hand.kind != NOTHING && hand.kind != PAGES) {
                return WRONG;
            }
            cells[i] = hand.page;
            return DONE;
        }

        void reverse() {
            for (int low = 0, high = cells.length - 1; low < high; low++, high--) {
                Page kept = cells[low];
                cells[low] = cells[high];
                cells[high] = kept;
            }
        }
    }

    /** Numbers told by their bits. IEEE is worked out on whole numbers: the language leaves no way to a double's bits. */
    private static final class Kinds {
        private static final int FLOAT_FRACTION = 23, FLOAT_BIAS = 127, FLOAT_TOP_EXPONENT = 255;
        private static final int LEAST_FLOAT_EXPONENT = 1 - FLOAT_BIAS - FLOAT_FRACTION;
        private static final long LEAST_NORMAL_FLOAT = 1L << FLOAT_FRACTION;
        private static final int DOUBLE_FRACTION = 52, DOUBLE_BIAS = 1023, DOUBLE_TOP_EXPONENT = 2047;
        private static final long FLOAT_INFINITY = (long) FLOAT_TOP_EXPONENT << FLOAT_FRACTION;
        private static final long DOUBLE_INFINITY = (long) DOUBLE_TOP_EXPONENT << DOUBLE_FRACTION;
        private static final long FLOAT_SIGN = 1L << 31, FLOAT_UNSIGNED = FLOAT_SIGN - 1;
        private static final long DOUBLE_SIGN = 1L << 63, DOUBLE_UNSIGNED = DOUBLE_SIGN - 1;

        private static long cut(int kind, long bits) {
            switch (kind) {
                case TRUTH:
                    return bits & 1;
                case BYTE:
                    return (byte) bits;
                case CHAR:
                    return (char) bits;
                case SHORT:
                    return (short) bits;
                case INT:
                case FLOAT:
                    return (int) bits;
                default:
                    return bits;
            }
        }

        private static boolean isNoNumber(int kind, long bits) {
            if (kind == FLOAT) {
                return (bits & FLOAT_UNSIGNED) > FLOAT_INFINITY;
            }
            return kind == DOUBLE && (bits & DOUBLE_UNSIGNED) > DOUBLE_INFINITY;
        }

        /** What is no number's kind (from MARKS on) goes for none. */
        private static boolean goesFor(int from, int to) {
            if (from == to) {
                return true;
            }
            if (from == TRUTH || to <= CHAR) {
                return false;
            }
            if (to == SHORT) {
                return from == BYTE;
            }
            return from < to;
        }

        /** The bits of a number of one kind as of another that it goes for. */
        private static long widened(int from, int to, long bits) {
            if (from == to || to < FLOAT) {
                return bits;
            }
            if (to == FLOAT) {
                return (int) wholeAsIeee(bits, FLOAT_FRACTION, FLOAT_BIAS, FLOAT_SIGN);
            }
            if (from == FLOAT) {
                return floatAsDouble(bits);
            }
            return wholeAsIeee(bits, DOUBLE_FRACTION, DOUBLE_BIAS, DOUBLE_SIGN);
        }

        private static long wholeAsIeee(long whole, int fraction, int bias, long signBit) {
            if (whole == 0) {
                return 0;
            }
            long size = whole < 0 ? -whole : whole;
            int top = topBit(size);
            long digits = top <= fraction ? size << (fraction - top) : nearestWithout(size, top - fraction);
            // Added, not joined: digits rounded up to the next power of two carry into the exponent.
            long bits = ((long) (top + bias - 1) << fraction) + digits;
            return whole < 0 ? bits | signBit : bits;
        }

        /** The place of the highest bit; size counts as unsigned, as the least LONG has no opposite. */
        private static int topBit(long size) {
            int top = 63;
            while (top > 0 && size >>> top == 0) {
                top--;
            }
            return top;
        }

        /** Size without its lowest bits, rounded to the nearest, to the even one from halfway. */
        private static long nearestWithout(long size, int lost) {
            long kept = size >>> lost;
            long rest = size - (kept << lost);
            long half = 1L << (lost - 1);
            boolean up = rest > half || (rest == half && (kept & 1) == 1);
            return up ? kept + 1 : kept;
        }

        private static long floatAsDouble(long bits) {
            long size = bits & FLOAT_UNSIGNED;
            long sign = bits < 0 ? DOUBLE_SIGN : 0;
            if (size >= FLOAT_INFINITY) {
                return sign | DOUBLE_INFINITY;
            }
            if (size < LEAST_NORMAL_FLOAT) {
                // So many of the least FLOAT, and normal as a DOUBLE.
                return sign | wholeAsIeee(size, DOUBLE_FRACTION, DOUBLE_BIAS + LEAST_FLOAT_EXPONENT, 0);
            }
            long rebias = (long) (DOUBLE_BIAS - FLOAT_BIAS) << DOUBLE_FRACTION;
            return sign | ((size << (DOUBLE_FRACTION - FLOAT_FRACTION)) + rebias);
        }

        /** In the order of the numbers themselves, with one rank for both zeros. */
        private static long rankOfDouble(long bits) {
            return bits < 0 ? -(bits & DOUBLE_UNSIGNED) : bits;
        }
    }
}
