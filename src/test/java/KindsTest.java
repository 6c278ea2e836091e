/** KINDS, BITS and widening, against the casts of the Java machine: promises 6 to 11 where they speak of kinds. */
public final class KindsTest {
    private static final int TRUTH = 0, BYTE = 1, CHAR = 2, SHORT = 3, INT = 4, LONG = 5, FLOAT = 6, DOUBLE = 7;
    private static final String[] GOES = {"0", "134567", "24567", "34567", "4567", "567", "67", "7"};

    public static void main(String[] args) {
        cutting();
        noNumbers();
        long mixed = 0x9E3779B97F4A7C15L;
        for (int shift = 0; shift < 64; shift++) {
            for (int near = -3; near <= 3; near++) {
                everyWay((1L << shift) + near);
                everyWay(-(1L << shift) + near);
                everyWay((3L << shift) + near);
                everyWay((mixed >>> shift) + near);
                everyWay(((1L << 24) + 1) << shift | near & 3);
                everyWay(((1L << 53) + 1) << shift | near & 3);
                everyWay(((1L << 25) - 1) << shift);
                everyWay(((1L << 54) - 1) << shift);
            }
        }
        for (float one : new float[] {0f, -0f, 1f, -1.5f, Float.MIN_VALUE, -Float.MIN_VALUE, Float.MIN_NORMAL,
                Math.nextDown(Float.MIN_NORMAL), Float.MAX_VALUE, -Float.MAX_VALUE, 3 * Float.MIN_VALUE,
                Float.POSITIVE_INFINITY, Float.NEGATIVE_INFINITY, 0.1f}) {
            everyWay(Float.floatToRawIntBits(one));
        }
        Due.end();
    }

    private static void cutting() {
        Due.part("cutting");
        long[] want = {1, -1, 65535, -1, -1, -1};
        for (int kind = TRUTH; kind <= LONG; kind++) {
            held(kind, -1L, want[kind]);
        }
        held(TRUTH, 2, 0);
        held(TRUTH, 3, 1);
        held(BYTE, 0x180, -128);
        held(CHAR, 0x18000, 0x8000);
        held(SHORT, 0x18000, -0x8000);
        held(INT, 0x180000000L, -0x80000000L);
        held(FLOAT, 0x13f800000L, 0x3f800000);
        held(FLOAT, 0x80000000L, -0x80000000L);
        held(FLOAT, 0x7fc000003f800000L, 0x3f800000);
        held(DOUBLE, Long.MIN_VALUE, Long.MIN_VALUE);
    }

    private static void held(int kind, long bits, long want) {
        TideShelves x = new TideShelves();
        String call = "hold(" + kind + ", " + bits + ")";
        Due.is(call, x.hold(kind, bits), 1);
        Due.is(call + " held", x.held(), kind);
        Due.is(call + " weight", x.weight(), want);
        x.shelve(0, kind, 1);
        Due.is(call + " write", x.write(0, 0, kind, bits), 0);
        Due.is(call + " read", x.read(0, 0, kind), 0);
        Due.is(call + " seen", x.seen(), want);
    }

    private static void noNumbers() {
        Due.part("no numbers");
        long[] floats = {0x7f800001L, 0x7fffffffL, 0xff800001L, -1L, 0x17fc00000L, 0xffffffffff800001L};
        for (long bits : floats) {
            refused(FLOAT, bits);
        }
        long[] doubles = {0x7ff0000000000001L, 0x7fffffffffffffffL, 0xfff0000000000001L, -1L};
        for (long bits : doubles) {
            refused(DOUBLE, bits);
        }
        held(FLOAT, 0x7f800000L, 0x7f800000L);
        held(FLOAT, 0xff800000L, (int) 0xff800000L);
        held(DOUBLE, 0x7ff0000000000000L, 0x7ff0000000000000L);
        held(DOUBLE, 0xfff0000000000000L, 0xfff0000000000000L);
    }

    private static void refused(int kind, long bits) {
        TideShelves x = new TideShelves();
        x.shelve(0, kind, 1);
        x.hold(INT, 5);
        Due.is("hold(" + kind + ", " + bits + ")", x.hold(kind, bits), TideShelves.OUTSIDE);
        Due.is("held()", x.held(), INT);
        Due.is("weight()", x.weight(), 5);
        Due.is("write(0, 0, " + kind + ", " + bits + ")", x.write(0, 0, kind, bits), TideShelves.OUTSIDE);
        x.read(0, 0, kind);
        Due.is("seen()", x.seen(), 0);
    }

    /** Bits read as of every kind from a log of every kind, written as of it, and given to it. */
    private static void everyWay(long bits) {
        Due.part("widening of " + bits);
        for (int from = TRUTH; from <= DOUBLE; from++) {
            if (from == FLOAT && Float.isNaN(Float.intBitsToFloat((int) bits))
                    || from == DOUBLE && Double.isNaN(Double.longBitsToDouble(bits))) {
                continue;
            }
            for (int to = TRUTH; to <= DOUBLE; to++) {
                oneWay(from, to, bits, GOES[from].indexOf((char) ('0' + to)) >= 0);
            }
        }
    }

    private static void oneWay(int from, int to, long bits, boolean goes) {
        TideShelves x = new TideShelves();
        String way = from + " to " + to;
        int due = goes ? 0 : TideShelves.WRONG;
        long want = goes ? widened(from, to, bits) : 0;
        x.shelve(0, from, 1);
        x.write(0, 0, from, bits);
        Due.is("read, " + way, x.read(0, 0, to), due);
        Due.is("read and seen, " + way, x.seen(), want);
        x.shelve(1, to, 1);
        Due.is("write, " + way, x.write(1, 0, from, bits), due);
        x.read(1, 0, to);
        Due.is("write and seen, " + way, x.seen(), want);
        x.shelve(2, to, 1);
        x.take(0, 0);
        Due.is("give, " + way, x.give(2, 0), due);
        x.read(2, 0, to);
        Due.is("give and seen, " + way, x.seen(), want);
    }

    private static long widened(int from, int to, long bits) {
        switch (from) {
            case TRUTH:
                return bits & 1;
            case BYTE:
                return wholeAs(to, (byte) bits);
            case CHAR:
                return wholeAs(to, (char) bits);
            case SHORT:
                return wholeAs(to, (short) bits);
            case INT:
                return wholeAs(to, (int) bits);
            case LONG:
                return wholeAs(to, bits);
            case FLOAT:
                return to == FLOAT ? (int) bits : Double.doubleToRawLongBits(Float.intBitsToFloat((int) bits));
            default:
                return bits;
        }
    }

    private static long wholeAs(int to, long whole) {
        if (to == FLOAT) {
            return Float.floatToRawIntBits((float) whole);
        }
        return to == DOUBLE ? Double.doubleToRawLongBits((double) whole) : whole;
    }
}
