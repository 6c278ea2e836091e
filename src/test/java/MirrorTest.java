import java.util.Random;

/** Mixed runs of 512 calls, every answer held against ReflectedShelves; the seeds are fixed, so a run can be told. */
public final class MirrorTest {
    private static final int RUNS = 1500, CALLS = 512;
    private static final long[] BITS = {0, 1, -1, 2, 77, -77, 127, 128, 255, 256, 32767, 32768, 40000, 65535, 65536,
            16777217, -16777219, Integer.MAX_VALUE, Integer.MIN_VALUE, 0x80000000L, 0x100000000L, (1L << 53) + 1,
            -(1L << 53) - 3, Long.MAX_VALUE, Long.MIN_VALUE, 0x3f800000, 0xbfc00000L, 1 << 22, 0x7f800000, 0xff800000L,
            0x7f800001, 0x7fc00000, 0x3ff8000000000000L, 0x8000000000000000L, 0x7ff0000000000000L,
            0xfff0000000000000L, 0x7ff0000000000001L, 0xfff8000000000000L};
    private static final int[] ODD = {-1, -2, 16, 24, 25, 40, 13, Integer.MAX_VALUE, Integer.MIN_VALUE, -11, -12};

    private final Random random;
    private final TideShelves x = new TideShelves();
    private final ReflectedShelves y = new ReflectedShelves();
    private final int shelfCount, rowLength;

    private MirrorTest(long seed) {
        random = new Random(seed);
        // Few shelves and short rows in some runs, so that things meet often.
        shelfCount = seed % 3 == 0 ? 16 : 4;
        rowLength = seed % 5 == 0 ? 25 : 4;
    }

    public static void main(String[] args) {
        for (int seed = 0; seed < RUNS; seed++) {
            Due.part("seed " + seed);
            MirrorTest run = new MirrorTest(seed);
            for (int call = 0; call < CALLS; call++) {
                run.oneCall(call);
            }
        }
        Due.end();
    }

    private int upTo(int end) {
        return random.nextInt(60) == 0 ? ODD[random.nextInt(ODD.length)] : random.nextInt(end);
    }

    private int shelf() {
        return upTo(shelfCount);
    }

    private int place() {
        return upTo(rowLength + 1);
    }

    private int kind() {
        return upTo(8);
    }

    private long bits() {
        switch (random.nextInt(4)) {
            case 0: return random.nextLong();
            case 1: return random.nextInt(25);
            default: return BITS[random.nextInt(BITS.length)];
        }
    }

    private void oneCall(int call) {
        if (call < 24 || random.nextInt(12) == 0) {
            setUp(call);
        } else if (random.nextInt(3) == 0) {
            look(call);
        } else {
            act(call);
        }
    }

    private void is(int call, String name, long got, long want, long... args) {
        if (got != want) {
            Due.is("call " + call + ", " + name + java.util.Arrays.toString(args), got, want);
        }
    }

    private void setUp(int call) {
        int a = shelf(), kind = upTo(13), n = upTo(rowLength), sort = upTo(2), sign = random.nextInt(41) - 20;
        if (random.nextInt(3) == 0) {
            is(call, "mark", x.mark(sort, sign), y.mark(sort, sign), sort, sign);
        } else {
            is(call, "shelve", x.shelve(a, kind, n), y.shelve(a, kind, n), a, kind, n);
        }
    }

    private void look(int call) {
        int a = shelf(), m = upTo(41), what = upTo(5);
        switch (random.nextInt(8)) {
            case 0: is(call, "seen", x.seen(), y.seen()); break;
            case 1: is(call, "held", x.held(), y.held()); break;
            case 2: is(call, "weight", x.weight(), y.weight()); break;
            case 3: is(call, "ended", x.ended(), y.ended()); break;
            case 4: is(call, "count", x.count(a), y.count(a), a); break;
            case 5: is(call, "sign", x.sign(m), y.sign(m), m); break;
            default: is(call, "about", x.about(what), y.about(what), what);
        }
    }

    private void act(int call) {
        int a = shelf(), b = shelf(), i = place(), k = place(), n = upTo(rowLength + 1), as = kind(), v = random.nextInt();
        long bits = bits();
        switch (random.nextInt(15)) {
            case 0: is(call, "move", x.move(a, b), y.move(a, b), a, b); break;
            case 1: is(call, "read", x.read(a, i, as), y.read(a, i, as), a, i, as); break;
            case 2: case 3: is(call, "write", x.write(a, i, as, bits), y.write(a, i, as, bits), a, i, as, bits); break;
            case 4: is(call, "take", x.take(a, i), y.take(a, i), a, i); break;
            case 5: case 6: is(call, "give", x.give(a, i), y.give(a, i), a, i); break;
            case 7: as = upTo(13); is(call, "hold", x.hold(as, bits), y.hold(as, bits), as, bits); break;
            case 8: as = 8 + 2 * upTo(2); is(call, "hold", x.hold(as, bits), y.hold(as, bits), as, bits); break;
            case 9: is(call, "note", x.note(i, v), y.note(i, v), i, v); break;
            case 10: is(call, "noted", x.noted(i), y.noted(i), i); break;
            case 11: is(call, "carry", x.carry(a, i, b, k, n), y.carry(a, i, b, k, n), a, i, b, k, n); break;
            case 12: is(call, "total", x.total(a), y.total(a), a); break;
            case 13: is(call, "peak", x.peak(a), y.peak(a), a); break;
            default: is(call, "turn", x.turn(a), y.turn(a), a);
        }
    }
}
