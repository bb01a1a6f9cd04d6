/** The sentences of promises 1 to 8: a new object, and the calls that write. */
public final class WritingTest {
    private static final int[] ODD_WIDTHS = {0, 9, -1, -8, 10, 16, Integer.MIN_VALUE, Integer.MIN_VALUE + 1, Integer.MAX_VALUE};

    public static void main(String[] args) {
        limits();
        lowestBytes();
        fixedAtTheEnd();
        orderOfRefusals();
        fixedWidths();
        sevens();
        signed();
        letter();
        copy();
        copyOfItself();
        copyOfNone();
        copyRefused();
        block();
        blockOfItself();
        frame();
        frameOfItself();
        Edges.end();
    }

    /** What is due when so many bytes are to be written to a row of limit 16 that has size ones. */
    private static Object dueOr(Object answer, int size, int more) {
        return size + more > 16 ? Edges.TOO_LONG : answer;
    }

    /** The desk with these bytes behind row k's, or as it was when they do not fit into 16. */
    private static Edges.Start longer(Edges.Start start, int k, int... more) {
        int[] row = Edges.joined(start.row(k), more);
        return row.length > 16 ? start : start.with(k, start.place(k), row);
    }

    // ---- promise 1

    private static void limits() {
        Edges.sentence("Promise 1", "Rows of at most limit bytes (at least 16, at most 65536; others as the nearest of these).");
        int[][] limits = {{Integer.MIN_VALUE, 16}, {-65537, 16}, {-65536, 16}, {-16, 16}, {-1, 16}, {0, 16}, {1, 16}, {15, 16},
            {16, 16}, {17, 17}, {18, 18}, {65534, 65534}, {65535, 65535}, {65536, 65536}, {65537, 65536}, {131072, 65536},
            {Integer.MAX_VALUE, 65536}};
        for (int[] limit : limits) {
            for (int k = 0; k < 4; k++) {
                int row = k;
                Edges.Start full = Edges.Start.of(limit[0]).with(k, 0, Edges.pattern(limit[1]));
                Edges.looked(full, "a full row", limit[1], x -> x.row(row, 0));
                Edges.refused(full, "a byte more", Edges.TOO_LONG, x -> x.fixed(row, 0, 1));
            }
        }
        fourFullRows();
    }

    private static void fourFullRows() {
        int[] row = Edges.pattern(65536);
        Edges.Start full = Edges.Start.of(65536).with(0, 0, row).with(1, 0, row).with(2, 65536, row).with(3, 1, row);
        Edges.looked(full, "all rows full", true, x -> x.same(0, 3));
        Edges.refused(full, "a byte more", Edges.TOO_LONG, x -> x.copy(3, 0, 0, 1));
    }

    // ---- promise 2

    private static void lowestBytes() {
        Edges.sentence("Promise 2", "Writes the n lowest bytes of v, the lowest first: how many the row has.");
        long[] numbers = {0, 1, 127, 128, 255, 256, 0xFF00, 0x0102030405060708L, 0xF1F2F3F4F5F6F7F8L, -1, -2, -256, -257,
            Integer.MAX_VALUE, Integer.MIN_VALUE, 1L << 31, 1L << 32, Long.MAX_VALUE, Long.MIN_VALUE};
        Edges.Start start = Edges.Start.of(16).with(1, 2, 9, 8, 7);
        for (long v : numbers) {
            for (int n = 1; n <= 8; n++) {
                int width = n;
                Edges.taken(start, "fixed(1, " + v + ", " + n + ")", 3 + n, longer(start, 1, Edges.lowest(v, n)),
                    x -> x.fixed(1, v, width));
            }
        }
        Edges.taken(start, "literal bytes", 6, start.with(1, 2, 9, 8, 7, 0x88, 0x77, 0x66),
            x -> x.fixed(1, 0x1122334455667788L, 3));
    }

    private static void fixedAtTheEnd() {
        Edges.sentence("Promise 2", "IllegalStateException, when the row would be too long");
        for (int size = 0; size <= 16; size++) {
            Edges.Start start = Edges.Start.of(16).with(0, size / 2, Edges.pattern(size));
            for (int n = 1; n <= 8; n++) {
                int width = n;
                Edges.taken(start, "fixed of " + n, dueOr(size + n, size, n), longer(start, 0, Edges.lowest(-2, n)),
                    x -> x.fixed(0, -2, width));
            }
        }
    }

    private static void orderOfRefusals() {
        Edges.sentence("Promise 2", "For all calls that write: IndexOutOfBoundsException, when there is no such row"
            + " (or the one that is copied); IllegalArgumentException, when another number is none that is told; IllegalStateException, when the"
            + " row would be too long (in this order).");
        Edges.Start full = Edges.Start.of(16).with(0, 4, Edges.pattern(16)).with(1, 2, 1, 2, 3);
        for (int k : Edges.NO_ROWS) {
            Edges.refused(full, "fixed, no row, no width", Edges.NO_ROW, x -> x.fixed(k, 1, 9));
            Edges.refused(full, "sevens, no row", Edges.NO_ROW, x -> x.sevens(k, -1));
            Edges.refused(full, "signed, no row", Edges.NO_ROW, x -> x.signed(k, -1));
            Edges.refused(full, "letter, no row, no letter", Edges.NO_ROW, x -> x.letter(k, 55296));
            Edges.refused(full, "copy, no row, no bytes", Edges.NO_ROW, x -> x.copy(k, 0, -1, -1));
            Edges.refused(full, "copy, no row, too many", Edges.NO_ROW, x -> x.copy(k, 0, 0, 17));
            Edges.refused(full, "copy from no row, no bytes", Edges.NO_ROW, x -> x.copy(1, k, -1, -1));
            Edges.refused(full, "copy from no row to a full one", Edges.NO_ROW, x -> x.copy(0, k, 0, 1));
            Edges.refused(full, "copy of none from no row", Edges.NO_ROW, x -> x.copy(1, k, 0, 0));
            Edges.refused(full, "copy of none to no row", Edges.NO_ROW, x -> x.copy(k, 1, 0, 0));
            Edges.refused(full, "copy, no rows", Edges.NO_ROW, x -> x.copy(k, k, 0, 0));
            Edges.refused(full, "block to no row", Edges.NO_ROW, x -> x.block(k, 0));
            Edges.refused(full, "block from no row to a full one", Edges.NO_ROW, x -> x.block(0, k));
            Edges.refused(full, "block, no rows", Edges.NO_ROW, x -> x.block(k, k));
            Edges.refused(full, "frame to no row", Edges.NO_ROW, x -> x.frame(k, 0));
            Edges.refused(full, "frame from no row to a full one", Edges.NO_ROW, x -> x.frame(0, k));
            Edges.refused(full, "frame, no rows", Edges.NO_ROW, x -> x.frame(k, k));
        }
        for (int n : ODD_WIDTHS) {
            Edges.refused(full, "fixed of a full row, width " + n, Edges.WRONG, x -> x.fixed(0, 1, n));
        }
        for (int c : new int[] {-1, 55296, 57343, 1114112}) {
            Edges.refused(full, "letter of a full row, " + c, Edges.WRONG, x -> x.letter(0, c));
        }
        int[][] ranges = {{-1, 1}, {0, -1}, {0, 17}, {16, 1}, {17, 0}, {1, Integer.MAX_VALUE}};
        for (int[] range : ranges) {
            Edges.refused(full, "copy of a full row to itself", Edges.WRONG, x -> x.copy(0, 0, range[0], range[1]));
        }
        Edges.refused(full, "copy of 4 of 3 to a full row", Edges.WRONG, x -> x.copy(0, 1, 0, 4));
        Edges.refused(full, "copy of 3 of 3 to a full row", Edges.TOO_LONG, x -> x.copy(0, 1, 0, 3));
    }

    private static void fixedWidths() {
        Edges.sentence("Promise 2", "n must be 1 .. 8.");
        Edges.Start start = Edges.Start.of(64).with(2, 1, 5, 6);
        for (int n : ODD_WIDTHS) {
            Edges.refused(start, "a width of " + n, Edges.WRONG, x -> x.fixed(2, -1, n));
        }
        Edges.taken(start, "a width of 1", 3, start.with(2, 1, 5, 6, 255), x -> x.fixed(2, -1, 1));
        Edges.taken(start, "a width of 8", 10, start.with(2, 1, 5, 6, 255, 255, 255, 255, 255, 255, 255, 255),
            x -> x.fixed(2, -1, 8));
    }

    // ---- promises 3 to 5

    private static void sevens() {
        Edges.sentence("Promise 3", "Writes the sevens of v: how many bytes.");
        for (int size = 0; size <= 16; size++) {
            Edges.Start start = Edges.Start.of(16).with(3, size / 2, Edges.pattern(size));
            for (int groups = 1; groups <= 10; groups++) {
                long v = groups == 1 ? 1 : 1L << 7 * (groups - 1);
                int[] row = Edges.joined(Edges.times(groups - 1, 128), Edges.bytes(1));
                Edges.taken(start, "sevens of " + v, dueOr(groups, size, groups), longer(start, 3, row), x -> x.sevens(3, v));
            }
            int[] most = Edges.joined(Edges.times(9, 255), Edges.bytes(1));
            Edges.taken(start, "sevens of -1", dueOr(10, size, 10), longer(start, 3, most), x -> x.sevens(3, -1));
            Edges.taken(start, "sevens of 0", dueOr(1, size, 1), longer(start, 3, 0), x -> x.sevens(3, 0));
        }
    }

    private static void signed() {
        Edges.sentence("Promise 4", "Writes v signed: how many bytes.");
        for (int size = 0; size <= 16; size++) {
            Edges.Start start = Edges.Start.of(16).with(3, size / 2, Edges.pattern(size));
            for (int groups = 1; groups <= 10; groups++) {
                long v = groups == 1 ? -1 : -(1L << 7 * (groups - 1) - 1) - 1;
                int[] row = groups == 1 ? Edges.bytes(1)
                    : Edges.joined(Edges.bytes(129), Edges.times(groups - 2, 128), Edges.bytes(1));
                Edges.taken(start, "signed of " + v, dueOr(groups, size, groups), longer(start, 3, row), x -> x.signed(3, v));
            }
            int[] most = Edges.joined(Edges.times(9, 255), Edges.bytes(1));
            Edges.taken(start, "the least", dueOr(10, size, 10), longer(start, 3, most), x -> x.signed(3, Long.MIN_VALUE));
            Edges.taken(start, "signed of 0", dueOr(1, size, 1), longer(start, 3, 0), x -> x.signed(3, 0));
        }
    }

    private static void letter() {
        Edges.sentence("Promise 5", "Writes a letter: how many bytes.");
        int[][] letters = {{0, 0}, {127, 127}, {128, 194, 128}, {2047, 223, 191}, {2048, 224, 160, 128},
            {55295, 237, 159, 191}, {57344, 238, 128, 128}, {65535, 239, 191, 191}, {65536, 240, 144, 128, 128},
            {1114111, 244, 143, 191, 191}};
        for (int size = 0; size <= 16; size++) {
            Edges.Start start = Edges.Start.of(16).with(3, size / 2, Edges.pattern(size));
            for (int[] letter : letters) {
                int[] row = Edges.part(letter, 1, letter.length - 1);
                Edges.taken(start, "letter " + letter[0], dueOr(row.length, size, row.length), longer(start, 3, row),
                    x -> x.letter(3, letter[0]));
            }
            for (int c : new int[] {-1, 55296, 57343, 1114112}) {
                Edges.refused(start, "letter " + c, Edges.WRONG, x -> x.letter(3, c));
            }
        }
    }

    // ---- promise 6

    private static boolean within(int at, int n, int size) {
        return at >= 0 && n >= 0 && at + n <= size;
    }

    private static void oneCopy(Edges.Start start, int k, int from, int at, int n) {
        int[] source = start.row(from);
        int size = start.row(k).length;
        String name = "copy(" + k + ", " + from + ", " + at + ", " + n + ")";
        if (within(at, n, source.length)) {
            Edges.taken(start, name, dueOr(size + n, size, n), longer(start, k, Edges.part(source, at, n)),
                x -> x.copy(k, from, at, n));
        } else {
            Edges.refused(start, name, Edges.WRONG, x -> x.copy(k, from, at, n));
        }
    }

    private static void copy() {
        Edges.sentence("Promise 6", "Writes n bytes of row from, from byte at on");
        for (int size = 0; size <= 4; size++) {
            for (int has = 11; has <= 16; has++) {
                Edges.Start start = Edges.Start.of(16).with(1, size, Edges.part(new int[] {5, 6, 7, 200}, 0, size))
                    .with(2, has / 2, Edges.pattern(has));
                for (int at = -1; at <= size + 1; at++) {
                    for (int n = -1; n <= size + 1; n++) {
                        oneCopy(start, 2, 1, at, n);
                    }
                }
            }
        }
        Edges.Start large = Edges.Start.of(65536).with(0, 7, Edges.pattern(65536));
        Edges.taken(large, "copy of a full row", 65536, large.with(1, 0, Edges.pattern(65536)), x -> x.copy(1, 0, 0, 65536));
        Edges.taken(large, "copy of its last byte", 1, large.with(1, 0, 1), x -> x.copy(1, 0, 65535, 1));
    }

    private static void copyOfItself() {
        Edges.sentence("Promise 6", "(both may be the same row): how many the row has.");
        int[] row = {1, 2, 3, 4, 5, 6, 7, 8, 9, 10, 11, 12, 13, 14, 15, 200};
        for (int size = 0; size <= 16; size++) {
            Edges.Start start = Edges.Start.of(16).with(3, size / 2, Edges.part(row, 0, size));
            for (int at = -1; at <= size + 1; at++) {
                for (int n = -1; n <= size + 1; n++) {
                    oneCopy(start, 3, 3, at, n);
                }
            }
        }
        Edges.Start half = Edges.Start.of(65536).with(0, 7, Edges.pattern(32768));
        int[] twice = Edges.joined(Edges.pattern(32768), Edges.pattern(32768));
        Edges.taken(half, "a row twice", 65536, half.with(0, 7, twice), x -> x.copy(0, 0, 0, 32768));
    }

    private static void copyOfNone() {
        Edges.sentence("Promise 6", "(n may be 0.)");
        Edges.Start start = Edges.Start.of(16).with(0, 3, Edges.pattern(16)).with(1, 1, 7, 8);
        for (int at = 0; at <= 2; at++) {
            int from = at;
            Edges.looked(start, "none of 2 to a full row", 16, x -> x.copy(0, 1, from, 0));
            Edges.looked(start, "none of 2 to an empty row", 0, x -> x.copy(2, 1, from, 0));
            Edges.looked(start, "none of 2 to itself", 2, x -> x.copy(1, 1, from, 0));
        }
        Edges.looked(start, "none of an empty row to an empty one", 0, x -> x.copy(2, 3, 0, 0));
        Edges.looked(start, "none of an empty row to itself", 0, x -> x.copy(3, 3, 0, 0));
        Edges.looked(start, "none of a full row to itself", 16, x -> x.copy(0, 0, 16, 0));
        // There is no byte 3 of two, nor a 17th place in a full row, to begin at.
        Edges.refused(start, "none behind the end", Edges.WRONG, x -> x.copy(2, 1, 3, 0));
        Edges.refused(start, "none behind a full row", Edges.WRONG, x -> x.copy(2, 0, 17, 0));
        Edges.refused(start, "none behind an empty row", Edges.WRONG, x -> x.copy(2, 3, 1, 0));
        Edges.refused(start, "none before the beginning", Edges.WRONG, x -> x.copy(2, 1, -1, 0));
    }

    private static void copyRefused() {
        Edges.sentence("Promise 6", "IllegalArgumentException, when at or n is below 0, or there are not so many.");
        int[][] ranges = {{-1, 0}, {-1, 1}, {-1, 2}, {-2, 3}, {0, -1}, {1, -1}, {3, -1}, {-1, -1}, {0, 4}, {1, 3}, {2, 2}, {3, 1},
            {4, 0}, {4, -1}, {0, 17}, {0, Integer.MAX_VALUE}, {1, Integer.MAX_VALUE}, {3, Integer.MAX_VALUE},
            {Integer.MAX_VALUE, 0}, {Integer.MAX_VALUE, 1}, {Integer.MAX_VALUE, Integer.MAX_VALUE}, {Integer.MIN_VALUE, 0},
            {Integer.MIN_VALUE, Integer.MAX_VALUE}, {0, Integer.MIN_VALUE}, {3, Integer.MIN_VALUE},
            {Integer.MAX_VALUE, Integer.MIN_VALUE}, {Integer.MIN_VALUE, Integer.MIN_VALUE}, {1 << 30, 1 << 30}};
        Edges.Start start = Edges.Start.of(16).with(1, 2, 7, 8, 9);
        for (int[] range : ranges) {
            String name = "copy at " + range[0] + " of " + range[1];
            Edges.refused(start, name, Edges.WRONG, x -> x.copy(2, 1, range[0], range[1]));
            Edges.refused(start, name + " to itself", Edges.WRONG, x -> x.copy(1, 1, range[0], range[1]));
        }
        Edges.taken(start, "copy of just so many", 3, start.with(2, 0, 7, 8, 9), x -> x.copy(2, 1, 0, 3));
    }

    // ---- promises 7 and 8

    private static void block() {
        Edges.sentence("Promise 7", "Writes a block of all bytes of row from");
        for (int size = 0; size <= 16; size++) {
            for (int has = 0; has <= 16; has++) {
                Edges.Start start = Edges.Start.of(16).with(0, size, Edges.pattern(size)).with(2, has / 2, Edges.pattern(has));
                int[] row = Edges.blockOf(Edges.pattern(size));
                Edges.taken(start, "block", dueOr(row.length, has, row.length), longer(start, 2, row), x -> x.block(2, 0));
            }
        }
        // The first sizes whose number has a byte more, in rows where all just fits and does not.
        for (int size : new int[] {127, 128, 16383, 16384}) {
            int whole = Edges.sevensOf(size).length + size;
            Edges.Start fits = Edges.Start.of(whole).with(0, 1, Edges.pattern(size));
            Edges.taken(fits, "block that fits", whole, fits.with(1, 0, Edges.blockOf(Edges.pattern(size))), x -> x.block(1, 0));
            Edges.Start small = Edges.Start.of(whole - 1).with(0, 1, Edges.pattern(size));
            Edges.refused(small, "block that does not", Edges.TOO_LONG, x -> x.block(1, 0));
        }
        Edges.Start most = Edges.Start.of(65536).with(0, 1, Edges.pattern(65533));
        Edges.taken(most, "the longest block", 65536, most.with(1, 0, Edges.blockOf(Edges.pattern(65533))), x -> x.block(1, 0));
        for (int size : new int[] {65534, 65535, 65536}) {
            Edges.Start over = Edges.Start.of(65536).with(0, 1, Edges.pattern(size));
            Edges.refused(over, "block of " + size, Edges.TOO_LONG, x -> x.block(1, 0));
        }
    }

    private static void blockOfItself() {
        Edges.sentence("Promise 7", "(as they were before): how many bytes.");
        for (int size = 0; size <= 16; size++) {
            Edges.Start start = Edges.Start.of(16).with(2, size / 2, Edges.pattern(size));
            int[] row = Edges.blockOf(Edges.pattern(size));
            Edges.taken(start, "block of itself", dueOr(row.length, size, row.length), longer(start, 2, row), x -> x.block(2, 2));
        }
        int[] row = Edges.pattern(129);
        Edges.Start large = Edges.Start.of(260).with(2, 0, row);
        Edges.taken(large, "block of itself that fits", 131, large.with(2, 0, Edges.joined(row, Edges.blockOf(row))),
            x -> x.block(2, 2));
        Edges.Start small = Edges.Start.of(259).with(2, 0, row);
        Edges.refused(small, "block of itself that does not", Edges.TOO_LONG, x -> x.block(2, 2));
    }

    private static void frame() {
        Edges.sentence("Promise 8", "Writes a frame likewise.");
        for (int size = 0; size <= 16; size++) {
            for (int has = 0; has <= 16; has++) {
                Edges.Start start = Edges.Start.of(16).with(0, size, Edges.pattern(size)).with(2, has / 2, Edges.pattern(has));
                int[] row = Edges.frameOf(Edges.pattern(size));
                Edges.taken(start, "frame", dueOr(row.length, has, row.length), longer(start, 2, row), x -> x.frame(2, 0));
            }
        }
        for (int size : new int[] {127, 128, 16383, 16384}) {
            int whole = Edges.sevensOf(size).length + 4 + size;
            Edges.Start fits = Edges.Start.of(whole).with(0, 1, Edges.pattern(size));
            Edges.taken(fits, "frame that fits", whole, fits.with(1, 0, Edges.frameOf(Edges.pattern(size))), x -> x.frame(1, 0));
            Edges.Start small = Edges.Start.of(whole - 1).with(0, 1, Edges.pattern(size));
            Edges.refused(small, "frame that does not", Edges.TOO_LONG, x -> x.frame(1, 0));
        }
        Edges.Start most = Edges.Start.of(65536).with(0, 1, Edges.pattern(65529));
        Edges.taken(most, "the longest frame", 65536, most.with(1, 0, Edges.frameOf(Edges.pattern(65529))), x -> x.frame(1, 0));
        for (int size : new int[] {65530, 65533, 65536}) {
            Edges.Start over = Edges.Start.of(65536).with(0, 1, Edges.pattern(size));
            Edges.refused(over, "frame of " + size, Edges.TOO_LONG, x -> x.frame(1, 0));
        }
    }

    private static void frameOfItself() {
        Edges.sentence("Promise 8", "likewise.");
        for (int size = 0; size <= 16; size++) {
            Edges.Start start = Edges.Start.of(16).with(2, size / 2, Edges.pattern(size));
            int[] row = Edges.frameOf(Edges.pattern(size));
            Edges.taken(start, "frame of itself", dueOr(row.length, size, row.length), longer(start, 2, row), x -> x.frame(2, 2));
        }
        int[] row = Edges.pattern(129);
        Edges.Start large = Edges.Start.of(264).with(2, 0, row);
        Edges.taken(large, "frame of itself that fits", 135, large.with(2, 0, Edges.joined(row, Edges.frameOf(row))),
            x -> x.frame(2, 2));
        Edges.Start small = Edges.Start.of(263).with(2, 0, row);
        Edges.refused(small, "frame of itself that does not", Edges.TOO_LONG, x -> x.frame(2, 2));
    }
}
