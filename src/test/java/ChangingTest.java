/** The sentences of promises 9 to 11: cut, turn and place. */
public final class ChangingTest {
    private static final int[] ROW = {1, 2, 3, 4, 5, 6, 7, 8, 9, 10, 11, 12, 13, 14, 15, 200};
    private static final int[] FAR = {Integer.MIN_VALUE, Integer.MIN_VALUE + 1, -65536, -17, -8, -2, -1, 17, 18, 65535, 65536,
        65537, Integer.MAX_VALUE - 7, Integer.MAX_VALUE};

    public static void main(String[] args) {
        cut();
        cutPlace();
        cutRefused();
        writtenBehindACut();
        turn();
        turnWithin();
        turnRefused();
        place();
        placeRefused();
        Edges.end();
    }

    private static Edges.Start of(int size, int place) {
        return Edges.Start.of(16).with(1, place, Edges.part(ROW, 0, size)).with(2, 1, 5, 6);
    }

    // ---- promise 9

    private static void cut() {
        Edges.sentence("Promise 9", "The row has the first size bytes alone;");
        for (int had = 0; had <= 16; had++) {
            for (int size = 0; size <= had; size++) {
                int left = size;
                Edges.taken(of(had, 0), "cut(1, " + size + ")", had, of(size, 0), x -> x.cut(1, left));
            }
        }
        Edges.Start large = Edges.Start.of(65536).with(1, 65536, Edges.pattern(65536));
        Edges.taken(large, "cut of nothing", 65536, large, x -> x.cut(1, 65536));
        Edges.taken(large, "cut of one byte", 65536, large.with(1, 65535, Edges.pattern(65535)), x -> x.cut(1, 65535));
        Edges.taken(large, "cut of all", 65536, large.with(1, 0), x -> x.cut(1, 0));
    }

    private static void cutPlace() {
        Edges.sentence("Promise 9", "its place is at most that: how many it had.");
        for (int place = 0; place <= 16; place++) {
            for (int size = 0; size <= 16; size++) {
                int left = size;
                Edges.taken(of(16, place), "cut(1, " + size + ")", 16, of(size, Math.min(place, size)), x -> x.cut(1, left));
            }
        }
    }

    private static void cutRefused() {
        Edges.sentence("Promise 9", "IllegalArgumentException, when it has not so many.");
        for (int had = 0; had <= 16; had++) {
            Edges.Start start = of(had, had / 2);
            for (int size : FAR) {
                Edges.refused(start, "cut(1, " + size + ")", Edges.WRONG, x -> x.cut(1, size));
            }
            int more = had + 1;
            Edges.refused(start, "cut to one more", Edges.WRONG, x -> x.cut(1, more));
            Edges.looked(start, "cut to all", had, x -> x.cut(1, more - 1));
        }
        for (int k : Edges.NO_ROWS) {
            Edges.refused(of(3, 1), "cut of no row to none", Edges.NO_ROW, x -> x.cut(k, 0));
            Edges.refused(of(3, 1), "cut of no row to too many", Edges.NO_ROW, x -> x.cut(k, 17));
            Edges.refused(of(3, 1), "cut of no row to -1", Edges.NO_ROW, x -> x.cut(k, -1));
        }
    }

    /** The bytes that were cut off are gone, and there is room for as many again. */
    private static void writtenBehindACut() {
        Edges.sentence("Promise 9", "the first size bytes alone;");
        Edges.Start full = of(16, 16);
        Edges.taken(full, "a byte behind a cut", 3, of(2, 2).with(1, 2, 1, 2, 99), x -> {
            x.cut(1, 2);
            return x.fixed(1, 99, 1);
        });
        Edges.taken(full, "a full row behind a cut", 16,
            full.with(1, 8, Edges.joined(Edges.part(ROW, 0, 8), Edges.lowest(0x0102030405060708L, 8))), x -> {
                x.cut(1, 8);
                return x.fixed(1, 0x0102030405060708L, 8);
            });
        Edges.taken(full, "reading behind a cut", Edges.ENDS, of(2, 2), x -> {
            x.cut(1, 2);
            return x.readFixed(1, 1);
        });
        Edges.taken(full, "byteAt behind a cut", Edges.WRONG, of(2, 2), x -> {
            x.cut(1, 2);
            return x.byteAt(1, 2);
        });
        Edges.taken(full, "a bit behind a cut", Edges.WRONG, of(2, 2), x -> {
            x.cut(1, 2);
            return x.turn(1, 16);
        });
        Edges.taken(full, "cut back", Edges.WRONG, of(2, 2), x -> {
            x.cut(1, 2);
            return x.cut(1, 3);
        });
    }

    // ---- promise 10

    private static void turn() {
        Edges.sentence("Promise 10", "Turns bit b of the row round (bit b mod 8 of byte b / 8): the byte then.");
        for (int size = 1; size <= 16; size++) {
            Edges.Start start = of(size, size / 2);
            for (int b = 0; b < 8 * size; b++) {
                int bit = b;
                int[] row = Edges.part(ROW, 0, size);
                row[b / 8] ^= 1 << b % 8;
                Edges.taken(start, "turn(1, " + b + ")", row[b / 8], start.with(1, size / 2, row), x -> x.turn(1, bit));
            }
        }
        int[] row = Edges.pattern(65536);
        Edges.Start large = Edges.Start.of(65536).with(0, 9, row);
        int[] turned = row.clone();
        turned[65535] = 129;
        Edges.taken(large, "the last bit of all", 129, large.with(0, 9, turned), x -> x.turn(0, 524287));
        Edges.refused(large, "a bit behind the last of all", Edges.WRONG, x -> x.turn(0, 524288));
    }

    private static void turnWithin() {
        Edges.sentence("Promise 10", "the byte then.");
        for (int b = 0; b < 8; b++) {
            int bit = b;
            Edges.taken(Edges.Start.of(16).with(0, 0, 0), "bit " + b + " of 0", 1 << b, Edges.Start.of(16).with(0, 0, 1 << b),
                x -> x.turn(0, bit));
            Edges.taken(Edges.Start.of(16).with(0, 0, 255), "bit " + b + " of 255", 255 - (1 << b),
                Edges.Start.of(16).with(0, 0, 255 - (1 << b)), x -> x.turn(0, bit));
        }
    }

    private static void turnRefused() {
        Edges.sentence("Promise 10", "IllegalArgumentException, when there is none.");
        for (int size = 0; size <= 16; size++) {
            Edges.Start start = of(size, size / 2);
            int first = 8 * size;
            for (int b : new int[] {first, first + 1, first + 7, first + 8, -1, -2, -7, -8, -9, Integer.MIN_VALUE,
                Integer.MIN_VALUE + 7, Integer.MAX_VALUE, Integer.MAX_VALUE - 7, 1 << 30}) {
                Edges.refused(start, "turn(1, " + b + ")", Edges.WRONG, x -> x.turn(1, b));
            }
        }
        for (int k : Edges.NO_ROWS) {
            Edges.refused(of(3, 1), "turn in no row", Edges.NO_ROW, x -> x.turn(k, 0));
            Edges.refused(of(3, 1), "turn of no bit in no row", Edges.NO_ROW, x -> x.turn(k, -1));
        }
    }

    // ---- promise 11

    private static void place() {
        Edges.sentence("Promise 11", "The place is at now: what it was.");
        for (int size = 0; size <= 16; size++) {
            for (int was = 0; was <= size; was++) {
                for (int at = 0; at <= size; at++) {
                    int to = at;
                    Edges.taken(of(size, was), "place(1, " + at + ")", was, of(size, at), x -> x.place(1, to));
                }
            }
        }
        Edges.Start large = Edges.Start.of(65536).with(3, 0, Edges.pattern(65536));
        Edges.taken(large, "the last place", 0, large.placed(3, 65536), x -> x.place(3, 65536));
        Edges.refused(large, "one behind it", Edges.WRONG, x -> x.place(3, 65537));
    }

    private static void placeRefused() {
        Edges.sentence("Promise 11", "IllegalArgumentException, when it would be before the beginning or behind the end.");
        for (int size = 0; size <= 16; size++) {
            Edges.Start start = of(size, size / 2);
            for (int at : FAR) {
                Edges.refused(start, "place(1, " + at + ")", Edges.WRONG, x -> x.place(1, at));
            }
            int behind = size + 1;
            Edges.refused(start, "place one behind the end", Edges.WRONG, x -> x.place(1, behind));
        }
        for (int k : Edges.NO_ROWS) {
            Edges.refused(of(3, 1), "place in no row", Edges.NO_ROW, x -> x.place(k, 0));
            Edges.refused(of(3, 1), "no place in no row", Edges.NO_ROW, x -> x.place(k, -1));
        }
    }
}
