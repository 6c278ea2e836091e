import java.lang.reflect.Array;

/**
 * The document once more, over the Java machine's own arrays and java.lang.reflect.Array, which knows its kinds,
 * its widening and its causes by itself: MirrorTest holds the program against it.
 */
final class ReflectedShelves {
    private static class Mark {
        final int number, sign;

        Mark(int number, int sign) {
            this.number = number;
            this.sign = sign;
        }
    }

    private static final class Buoy extends Mark {
        Buoy(int number, int sign) {
            super(number, sign);
        }
    }

    private static final Class<?>[] CELLS = {boolean.class, byte.class, char.class, short.class, int.class,
            long.class, float.class, double.class, Mark.class, Buoy.class, int[].class};
    private static final Class<?>[] BOXES = {Boolean.class, Byte.class, Character.class, Short.class, Integer.class,
            Long.class, Float.class, Double.class, Mark.class, Buoy.class, int[].class};

    private final Object[] shelves = new Object[16];
    private final Mark[] marks = new Mark[40];
    private final int[] causes = new int[3];
    private Object hand;
    private int markCount, carryEnd;
    private long seen;

    private interface Deed {
        int go();
    }

    private static int causeOf(RuntimeException thrown) {
        if (thrown instanceof NullPointerException) {
            return -11;
        }
        if (thrown instanceof IllegalArgumentException) {
            return -12;
        }
        if (thrown instanceof ArrayIndexOutOfBoundsException) {
            return -13;
        }
        throw thrown;
    }

    private int tried(Deed deed) {
        try {
            return deed.go();
        } catch (RuntimeException thrown) {
            int cause = causeOf(thrown);
            causes[-11 - cause]++;
            return cause;
        }
    }

    private static boolean off(int n, int end) {
        return n < 0 || n >= end;
    }

    private static Object box(int kind, long bits) {
        switch (kind) {
            case 0: return (bits & 1) == 1;
            case 1: return (byte) bits;
            case 2: return (char) bits;
            case 3: return (short) bits;
            case 4: return (int) bits;
            case 5: return bits;
            case 6: return Float.intBitsToFloat((int) bits);
            default: return Double.longBitsToDouble(bits);
        }
    }

    private static long unbox(Object number) {
        if (number instanceof Boolean) {
            return (Boolean) number ? 1 : 0;
        }
        if (number instanceof Character) {
            return (Character) number;
        }
        if (number instanceof Float) {
            return Float.floatToRawIntBits((Float) number);
        }
        if (number instanceof Double) {
            return Double.doubleToRawLongBits((Double) number);
        }
        return ((Number) number).longValue();
    }

    private static boolean noNumber(int kind, long bits) {
        return kind == 6 && Float.isNaN(Float.intBitsToFloat((int) bits))
                || kind == 7 && Double.isNaN(Double.longBitsToDouble(bits));
    }

    int shelve(int shelf, int kind, int n) {
        if (off(shelf, 16) || off(kind, 13) || kind < 11 && off(n, 25) || kind == 11 && off(n, markCount)) {
            return -101;
        }
        shelves[shelf] = kind == 12 ? null : kind == 11 ? marks[n] : Array.newInstance(CELLS[kind], n);
        return 1;
    }

    int mark(int sort, int sign) {
        if (off(sort, 2)) {
            return -101;
        }
        if (markCount == 40) {
            return -102;
        }
        marks[markCount] = sort == 0 ? new Mark(markCount, sign) : new Buoy(markCount, sign);
        return markCount++;
    }

    int move(int from, int to) {
        if (off(from, 16) || off(to, 16)) {
            return -101;
        }
        shelves[to] = shelves[from];
        return 1;
    }

    int count(int shelf) {
        return off(shelf, 16) ? -101 : tried(() -> Array.getLength(shelves[shelf]));
    }

    int read(int shelf, int i, int as) {
        return off(shelf, 16) || off(as, 8) ? -101 : tried(() -> {
            Object a = shelves[shelf];
            switch (as) {
                case 0: seen = unbox(Array.getBoolean(a, i)); break;
                case 1: seen = unbox(Array.getByte(a, i)); break;
                case 2: seen = unbox(Array.getChar(a, i)); break;
                case 3: seen = unbox(Array.getShort(a, i)); break;
                case 4: seen = unbox(Array.getInt(a, i)); break;
                case 5: seen = unbox(Array.getLong(a, i)); break;
                case 6: seen = unbox(Array.getFloat(a, i)); break;
                default: seen = unbox(Array.getDouble(a, i));
            }
            return 0;
        });
    }

    long seen() {
        return seen;
    }

    int write(int shelf, int i, int as, long bits) {
        return off(shelf, 16) || off(as, 8) || noNumber(as, bits) ? -101 : tried(() -> {
            Object a = shelves[shelf];
            switch (as) {
                case 0: Array.setBoolean(a, i, (bits & 1) == 1); break;
                case 1: Array.setByte(a, i, (byte) bits); break;
                case 2: Array.setChar(a, i, (char) bits); break;
                case 3: Array.setShort(a, i, (short) bits); break;
                case 4: Array.setInt(a, i, (int) bits); break;
                case 5: Array.setLong(a, i, bits); break;
                case 6: Array.setFloat(a, i, Float.intBitsToFloat((int) bits)); break;
                default: Array.setDouble(a, i, Double.longBitsToDouble(bits));
            }
            return 0;
        });
    }

    int take(int shelf, int i) {
        return off(shelf, 16) ? -101 : tried(() -> {
            hand = Array.get(shelves[shelf], i);
            return 0;
        });
    }

    int give(int shelf, int i) {
        return off(shelf, 16) ? -101 : tried(() -> {
            Array.set(shelves[shelf], i, hand);
            return 0;
        });
    }

    int hold(int kind, long bits) {
        if (!off(kind, 8) && !noNumber(kind, bits)) {
            hand = box(kind, bits);
        } else if (kind == 8 && bits >= 0 && bits < markCount) {
            hand = marks[(int) bits];
        } else if (kind == 10 && bits >= 0 && bits <= 24) {
            hand = new int[(int) bits];
        } else if (kind == 12) {
            hand = null;
        } else {
            return -101;
        }
        return 1;
    }

    int held() {
        if (hand == null) {
            return 12;
        }
        int kind = 0;
        while (BOXES[kind] != hand.getClass()) {
            kind++;
        }
        return kind;
    }

    long weight() {
        if (hand == null) {
            return 0;
        }
        if (hand instanceof int[]) {
            return ((int[]) hand).length;
        }
        return hand instanceof Mark ? ((Mark) hand).number : unbox(hand);
    }

    private int[] page() {
        if (!(hand instanceof int[])) {
            throw new IllegalArgumentException();
        }
        return (int[]) hand;
    }

    int note(int i, int v) {
        return tried(() -> {
            page()[i] = v;
            return 0;
        });
    }

    int noted(int i) {
        return tried(() -> {
            seen = page()[i];
            return 0;
        });
    }

    int carry(int from, int i, int to, int k, int n) {
        if (off(from, 16) || off(to, 16) || off(n, 25)) {
            return -101;
        }
        carryEnd = 0;
        for (int went = 0; went < n; went++) {
            carryEnd = take(from, i + went);
            if (carryEnd != 0) {
                return went;
            }
            int cause = give(to, k + went);
            if (cause != 0) {
                carryEnd = cause - 100;
                return went;
            }
        }
        return n;
    }

    int ended() {
        return carryEnd;
    }

    int total(int shelf) {
        return off(shelf, 16) ? -101 : tried(() -> {
            long sum = 0;
            for (int i = 0; i < Array.getLength(shelves[shelf]); i++) {
                sum += Array.getLong(shelves[shelf], i);
            }
            seen = Array.getLength(shelves[shelf]) == 0 ? 0 : sum;
            return 0;
        });
    }

    int peak(int shelf) {
        return off(shelf, 16) ? -101 : tried(() -> {
            int place = -1;
            for (int i = 0; i < Array.getLength(shelves[shelf]); i++) {
                double cell = Array.getDouble(shelves[shelf], i);
                place = place < 0 || cell > Array.getDouble(shelves[shelf], place) ? i : place;
            }
            return place;
        });
    }

    int turn(int shelf) {
        return off(shelf, 16) ? -101 : tried(() -> {
            Object a = shelves[shelf];
            int n = Array.getLength(a);
            Object copy = Array.newInstance(a.getClass().getComponentType(), n);
            System.arraycopy(a, 0, copy, 0, n);
            for (int i = 0; i < n; i++) {
                Array.set(a, i, Array.get(copy, n - 1 - i));
            }
            return 1;
        });
    }

    int sign(int mark) {
        return off(mark, markCount) ? 0 : marks[mark].sign;
    }

    int about(int what) {
        if (what == 0) {
            return markCount;
        }
        if (what == 1) {
            int filled = 0;
            for (Object one : shelves) {
                filled += one == null ? 0 : 1;
            }
            return filled;
        }
        return off(what, 5) ? -101 : causes[what - 2];
    }
}
