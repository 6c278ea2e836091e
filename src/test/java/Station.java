/** A station that has something of every sort, as the past of a run. */
final class Station {
    /**
     * Marks 0 and 2, buoy 1. Shelf 0 .. 10: what shelve's kind of that number makes, three cells, none of them alike
     * where they can differ. Shelf 11: mark 0 itself; 12: buoy 1 itself; 13: nothing; 14: what shelf 4 holds;
     * 15: a log of INTs without cells. SEEN is 41, the latest carry ended with NULL, the hand holds the LONG -9.
     */
    static final String FURNISHED = """
            mark(0, 5) = 0
            mark(1, -7) = 1
            mark(0, MAX) = 2
            """ + rows() + cells() + """
            hold(8, 0) = 1
            give(8, 0) = 0
            hold(8, 1) = 1
            give(8, 1) = 0
            give(9, 0) = 0
            hold(10, 2) = 1
            note(0, 11) = 0
            note(1, -12) = 0
            give(10, 0) = 0
            hold(10, 0) = 1
            give(10, 2) = 0
            shelve(11, 11, 0) = 1
            shelve(12, 11, 1) = 1
            move(4, 14) = 1
            shelve(15, 4, 0) = 1
            read(4, 1, 4) = 0
            carry(13, 0, 4, 0, 1) = 0
            hold(5, -9) = 1
            """;

    private Station() {
    }

    private static String rows() {
        return Runs.each("shelve({}, {}, 3) = 1", 0, 1, 2, 3, 4, 5, 6, 7, 8, 9, 10);
    }

    private static String cells() {
        String[] doubles = {"0x3ff0000000000000", "0x4000000000000000", "0x4008000000000000"};
        String[] floats = {"0x3f800000", "0x40000000", "0x40400000"};
        StringBuilder lines = new StringBuilder("write(0, 0, 0, 1) = 0\n");
        for (int i = 0; i < 3; i++) {
            for (int kind = 1; kind <= 5; kind++) {
                lines.append("write(" + kind + ", " + i + ", " + kind + ", " + (10 * kind + i) + ") = 0\n");
            }
            lines.append("write(6, " + i + ", 6, " + floats[i] + ") = 0\n");
            lines.append("write(7, " + i + ", 7, " + doubles[i] + ") = 0\n");
        }
        return lines.toString();
    }
}
