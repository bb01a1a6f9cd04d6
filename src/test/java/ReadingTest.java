/** The sentences of promises 12 to 17: the calls that read. */
public final class ReadingTest {
    private static final int[] ODD_WIDTHS = {0, 9, -1, -8, 10, 16, Integer.MIN_VALUE, Integer.MAX_VALUE};
    // Sevens that are wrong: the last of several is 0, the tenth is above 1, there are more than ten.
    private static final int[][] WRONG_NUMBERS = {{128, 0}, {255, 255, 0}, {128, 128, 128, 128, 128, 128, 128, 128, 128, 2},
        {255, 255, 255, 255, 255, 255, 255, 255, 255, 128}, {128, 128, 128, 128, 128, 128, 128, 128, 128, 128, 1}};

    public static void main(String[] args) {
        readFixed();
        readFixedWithoutSign();
        readFixedAtTheEnd();
        orderOfRefusals();
        readSevens();
        readSigned();
        readLetter();
        readBlock();
        readBlockTo();
        readBlockRefused();
        readBlockOfItself();
        readFrame();
        readFrameRefused();
        otherSum();
        otherSumBehind();
        nothingIsRead();
        Edges.end();
    }

    /** Row 0 has these bytes behind two others, its place is behind the two; row 1 has two bytes too. */
    private static Edges.Start at2(int... row) {
        return Edges.Start.of(64).with(0, 2, Edges.joined(Edges.bytes(7, 8), row)).with(1, 1, 5, 6);
    }

    // ---- promise 12

    private static void readFixed() {
        Edges.sentence("Promise 12", "Reads a number of n bytes (1 .. 8), the lowest first,");
        Edges.Start start = at2(1, 2, 3, 4, 5, 6, 7, 0x18, 9);
        long all = 0x1807060504030201L;
        for (int n = 1; n <= 8; n++) {
            int width = n;
            long due = n == 8 ? all : all & (1L << 8 * n) - 1;
            Edges.taken(start, "readFixed(0, " + n + ")", due, start.placed(0, 2 + n), x -> x.readFixed(0, width));
        }
        for (int n : ODD_WIDTHS) {
            Edges.refused(start, "readFixed(0, " + n + ")", Edges.WRONG, x -> x.readFixed(0, n));
        }
    }

    private static void readFixedWithoutSign() {
        Edges.sentence("Promise 12", "without a sign.");
        for (int n = 1; n <= 8; n++) {
            int width = n;
            Edges.Start most = at2(Edges.times(n, 255));
            Edges.taken(most, "the most of " + n + " bytes", n == 8 ? -1L : (1L << 8 * n) - 1, most.placed(0, 2 + n),
                x -> x.readFixed(0, width));
            Edges.Start high = at2(Edges.joined(Edges.times(n - 1, 0), Edges.bytes(128)));
            Edges.taken(high, "the highest bit of " + n + " bytes", 1L << 8 * n - 1, high.placed(0, 2 + n),
                x -> x.readFixed(0, width));
        }
    }

    private static void readFixedAtTheEnd() {
        Edges.sentence("Promise 12", "NoSuchElementException, when reading ends.");
        int[] row = Edges.pattern(16);
        for (int size = 0; size <= 16; size++) {
            for (int place = 0; place <= size; place++) {
                Edges.Start start = Edges.Start.of(16).with(3, place, Edges.part(row, 0, size));
                for (int n = 1; n <= 8; n++) {
                    int width = n;
                    if (place + n > size) {
                        Edges.refused(start, "readFixed(3, " + n + ")", Edges.ENDS, x -> x.readFixed(3, width));
                    } else {
                        Edges.taken(start, "readFixed(3, " + n + ")", number(Edges.part(row, place, n)),
                            start.placed(3, place + n), x -> x.readFixed(3, width));
                    }
                }
            }
        }
        Edges.Start large = Edges.Start.of(65536).with(3, 65528, Edges.pattern(65536));
        Edges.taken(large, "the last eight", number(Edges.part(Edges.pattern(65536), 65528, 8)), large.placed(3, 65536),
            x -> x.readFixed(3, 8));
        Edges.refused(large.placed(3, 65529), "eight of the last seven", Edges.ENDS, x -> x.readFixed(3, 8));
        Edges.refused(large.placed(3, 65536), "one behind the last", Edges.ENDS, x -> x.readFixed(3, 1));
    }

    private static long number(int[] lowestFirst) {
        long v = 0;
        for (int i = lowestFirst.length - 1; i >= 0; i--) {
            v = v << 8 | lowestFirst[i];
        }
        return v;
    }

    private static void orderOfRefusals() {
        Edges.sentence("Promise 12", "For all calls that read: IndexOutOfBoundsException, when there is no such row;"
            + " IllegalArgumentException, when another number is none that is told, or what is read is wrong;"
            + " NoSuchElementException, when reading ends.");
        Edges.Start ended = at2();
        Edges.Start wrong = at2(128, 0);
        for (Edges.Start start : new Edges.Start[] {ended, wrong}) {
            for (int k : Edges.NO_ROWS) {
                Edges.refused(start, "readFixed, no row", Edges.NO_ROW, x -> x.readFixed(k, 1));
                Edges.refused(start, "readFixed, no row, no width", Edges.NO_ROW, x -> x.readFixed(k, 0));
                Edges.refused(start, "readSevens, no row", Edges.NO_ROW, x -> x.readSevens(k));
                Edges.refused(start, "readSigned, no row", Edges.NO_ROW, x -> x.readSigned(k));
                Edges.refused(start, "readLetter, no row", Edges.NO_ROW, x -> x.readLetter(k));
                Edges.refused(start, "readBlock, no row", Edges.NO_ROW, x -> x.readBlock(k, 1));
                Edges.refused(start, "readBlock to no row", Edges.NO_ROW, x -> x.readBlock(0, k));
                Edges.refused(start, "readBlock, no rows alike", Edges.NO_ROW, x -> x.readBlock(k, k));
                Edges.refused(start, "readFrame, no row", Edges.NO_ROW, x -> x.readFrame(k, 1));
                Edges.refused(start, "readFrame to no row", Edges.NO_ROW, x -> x.readFrame(0, k));
                Edges.refused(start, "readFrame, no rows alike", Edges.NO_ROW, x -> x.readFrame(k, k));
            }
        }
        for (int n : ODD_WIDTHS) {
            Edges.refused(ended, "readFixed at the end, width " + n, Edges.WRONG, x -> x.readFixed(0, n));
            Edges.refused(ended, "readFixed of an empty row, width " + n, Edges.WRONG, x -> x.readFixed(3, n));
        }
    }

    // ---- promises 13 to 15

    private static void readSevens() {
        Edges.sentence("Promise 13", "Reads sevens: the number.");
        for (int groups = 1; groups <= 10; groups++) {
            int[] least = groups == 1 ? Edges.bytes(0) : Edges.joined(Edges.times(groups - 1, 128), Edges.bytes(1));
            int[] most = Edges.joined(Edges.times(groups - 1, 255), Edges.bytes(groups == 10 ? 1 : 127));
            Edges.Start low = at2(Edges.joined(least, Edges.bytes(255)));
            Edges.taken(low, "the least of " + groups, groups == 1 ? 0L : 1L << 7 * (groups - 1), low.placed(0, 2 + groups),
                x -> x.readSevens(0));
            Edges.Start high = at2(most);
            Edges.taken(high, "the most of " + groups, groups == 10 ? -1L : (1L << 7 * groups) - 1, high.placed(0, 2 + groups),
                x -> x.readSevens(0));
        }
        Edges.Start last = Edges.Start.of(16).with(2, 15, Edges.joined(Edges.times(15, 255), Edges.bytes(9)));
        Edges.taken(last, "the last byte of a full row", 9, last.placed(2, 16), x -> x.readSevens(2));
        for (int[] row : WRONG_NUMBERS) {
            Edges.refused(at2(row), "readSevens", Edges.WRONG, x -> x.readSevens(0));
        }
        for (int size = 0; size <= 9; size++) {
            Edges.refused(at2(Edges.times(size, 128)), "readSevens of " + size + " bytes", Edges.ENDS, x -> x.readSevens(0));
        }
        Edges.refused(Edges.Start.of(16), "readSevens of an empty row", Edges.ENDS, x -> x.readSevens(0));
    }

    private static void readSigned() {
        Edges.sentence("Promise 14", "Reads a signed number.");
        for (int groups = 1; groups <= 10; groups++) {
            int last = groups == 10 ? 1 : 127;
            long half = groups == 10 ? Long.MIN_VALUE : 1L << 7 * groups - 1;
            Edges.Start least = at2(Edges.joined(Edges.times(groups - 1, 255), Edges.bytes(last)));
            Edges.taken(least, "the least of " + groups, groups == 10 ? half : -half, least.placed(0, 2 + groups),
                x -> x.readSigned(0));
            Edges.Start most = at2(groups == 1 ? Edges.bytes(126)
                : Edges.joined(Edges.bytes(254), Edges.times(groups - 2, 255), Edges.bytes(last)));
            Edges.taken(most, "the most of " + groups, half - 1, most.placed(0, 2 + groups), x -> x.readSigned(0));
        }
        for (int[] row : WRONG_NUMBERS) {
            Edges.refused(at2(row), "readSigned", Edges.WRONG, x -> x.readSigned(0));
        }
        for (int size = 0; size <= 9; size++) {
            Edges.refused(at2(Edges.times(size, 129)), "readSigned of " + size + " bytes", Edges.ENDS, x -> x.readSigned(0));
        }
        Edges.refused(Edges.Start.of(16), "readSigned of an empty row", Edges.ENDS, x -> x.readSigned(0));
    }

    private static void letterIs(int c, int... row) {
        Edges.Start alone = at2(row);
        Edges.taken(alone, "letter " + c, c, alone.placed(0, 2 + row.length), x -> x.readLetter(0));
        Edges.Start more = at2(Edges.joined(row, Edges.bytes(128, 255)));
        Edges.taken(more, "letter " + c + " with more behind", c, more.placed(0, 2 + row.length), x -> x.readLetter(0));
    }

    private static void readLetter() {
        Edges.sentence("Promise 15", "Reads a letter.");
        letterIs(0, 0);
        letterIs(127, 127);
        letterIs(128, 194, 128);
        letterIs(2047, 223, 191);
        letterIs(2048, 224, 160, 128);
        letterIs(55295, 237, 159, 191);
        letterIs(57344, 238, 128, 128);
        letterIs(65535, 239, 191, 191);
        letterIs(65536, 240, 144, 128, 128);
        letterIs(1114111, 244, 143, 191, 191);
        int[][] wrong = {{128}, {191, 128}, {192, 128}, {193, 191}, {194, 127}, {194, 192}, {224, 159, 191}, {224, 159},
            {237, 160, 128}, {237, 160}, {237, 191, 191}, {240, 143, 191, 191}, {240, 143}, {244, 144, 128, 128}, {244, 144},
            {245}, {255}};
        for (int[] row : wrong) {
            Edges.refused(at2(row), "readLetter", Edges.WRONG, x -> x.readLetter(0));
        }
        int[][] ends = {{}, {194}, {223}, {224}, {224, 160}, {237}, {237, 159}, {239, 191}, {240}, {240, 144}, {240, 144, 128},
            {244}, {244, 143}, {244, 143, 191}};
        for (int[] row : ends) {
            Edges.refused(at2(row), "readLetter", Edges.ENDS, x -> x.readLetter(0));
        }
        Edges.refused(Edges.Start.of(16), "readLetter of an empty row", Edges.ENDS, x -> x.readLetter(0));
        Edges.Start full = Edges.Start.of(16).with(0, 13, Edges.joined(Edges.times(13, 0), Edges.bytes(226, 130, 172)));
        Edges.taken(full, "the last letter of a full row", 8364, full.placed(0, 16), x -> x.readLetter(0));
    }

    // ---- promise 16

    private static void readBlock() {
        Edges.sentence("Promise 16", "Reads a block;");
        for (int many : new int[] {0, 1, 2, 13, 14, 15}) {
            int[] row = Edges.pattern(many);
            Edges.Start start = Edges.Start.of(16).with(0, 0, Edges.blockOf(row)).with(3, 2, Edges.times(16, 9));
            Edges.taken(start, "block of " + many, many, start.placed(0, 1 + many).with(3, 0, row), x -> x.readBlock(0, 3));
        }
        for (int many : new int[] {127, 128, 16383, 16384, 65533}) {
            int[] row = Edges.pattern(many);
            int[] block = Edges.blockOf(row);
            Edges.Start start = Edges.Start.of(65536).with(0, 0, block).with(3, 2, 9, 9, 9);
            Edges.taken(start, "block of " + many, many, start.placed(0, block.length).with(3, 0, row), x -> x.readBlock(0, 3));
            int[] less = Edges.part(block, 0, block.length - 1);
            Edges.refused(start.with(0, 0, less), "a byte less", Edges.ENDS, x -> x.readBlock(0, 3));
        }
    }

    private static void readBlockTo() {
        Edges.sentence("Promise 16", "its bytes are all that row to has then (its place is 0): how many.");
        for (int had = 0; had <= 16; had++) {
            for (int many = 0; many <= 5; many++) {
                int[] row = {90, 91, 92, 93, 94};
                int[] inside = Edges.part(row, 0, many);
                Edges.Start start = Edges.Start.of(16).with(1, 1, Edges.joined(Edges.bytes(7), Edges.blockOf(inside)))
                    .with(2, had, Edges.pattern(had));
                Edges.Start after = start.placed(1, 2 + many).with(2, 0, inside);
                Edges.taken(start, "block of " + many, many, after, x -> x.readBlock(1, 2));
                Edges.taken(start, "a byte behind a block of " + many, many + 1,
                    after.with(2, 0, Edges.joined(inside, Edges.bytes(33))), x -> {
                        x.readBlock(1, 2);
                        return x.fixed(2, 33, 1);
                    });
                Edges.taken(start, "a block of " + many + " again", many, after, x -> {
                    x.readBlock(1, 2);
                    x.place(1, 1);
                    return x.readBlock(1, 2);
                });
            }
        }
    }

    private static void readBlockRefused() {
        Edges.sentence("Promise 16", "(When anything is thrown both rows stay.)");
        int[] block = Edges.blockOf(10, 20, 30);
        for (int size = 0; size < block.length; size++) {
            Edges.refused(at2(Edges.part(block, 0, size)), size + " bytes of a block", Edges.ENDS, x -> x.readBlock(0, 1));
        }
        for (int[] row : WRONG_NUMBERS) {
            Edges.refused(at2(row), "a wrong number", Edges.WRONG, x -> x.readBlock(0, 1));
        }
        Edges.refused(at2(129, 128, 4, 1, 2, 3), "65537 bytes", Edges.WRONG, x -> x.readBlock(0, 1));
        Edges.refused(at2(128, 128, 4, 1, 2, 3), "65536 bytes", Edges.ENDS, x -> x.readBlock(0, 1));
        for (int k : Edges.NO_ROWS) {
            Edges.refused(at2(block), "to no row", Edges.NO_ROW, x -> x.readBlock(0, k));
            Edges.refused(at2(block), "from no row", Edges.NO_ROW, x -> x.readBlock(k, 1));
        }
    }

    private static void readBlockOfItself() {
        Edges.sentence("Promise 16", "IllegalArgumentException, when k and to are the same (before what is read).");
        int[] broken = Edges.frameOf(10, 20);
        broken[2] ^= 4;
        int[][] rows = {{}, {0}, {2, 9, 9}, {2, 9}, {128}, {128, 0}, {129, 128, 4}, Edges.frameOf(10, 20), broken};
        for (int[] row : rows) {
            for (int k = 0; k < 4; k++) {
                int same = k;
                Edges.Start start = Edges.Start.of(16).with(k, 0, row);
                Edges.refused(start, "readBlock(" + k + ", " + k + ")", Edges.WRONG, x -> x.readBlock(same, same));
                Edges.refused(start, "readFrame(" + k + ", " + k + ")", Edges.WRONG, x -> x.readFrame(same, same));
            }
        }
        for (int k : Edges.NO_ROWS) {
            Edges.refused(at2(0, 0, 0, 0, 0), "readBlock of no row to itself", Edges.NO_ROW, x -> x.readBlock(k, k));
            Edges.refused(at2(0, 0, 0, 0, 0), "readFrame of no row to itself", Edges.NO_ROW, x -> x.readFrame(k, k));
        }
    }

    // ---- promise 17

    private static void readFrame() {
        Edges.sentence("Promise 17", "Reads a frame likewise.");
        for (int many = 0; many <= 11; many++) {
            int[] row = Edges.part(new int[] {90, 255, 92, 0, 94, 95, 96, 97, 98, 99, 200}, 0, many);
            int[] frame = Edges.frameOf(row);
            for (int had : new int[] {0, 1, many, 16}) {
                Edges.Start start = Edges.Start.of(16).with(0, 0, frame).with(3, had, Edges.pattern(had));
                int whole = 5 + many;
                Edges.taken(start, "frame of " + many, many, start.placed(0, whole).with(3, 0, row), x -> x.readFrame(0, 3));
            }
        }
        for (int many : new int[] {127, 128, 16383, 16384, 65529}) {
            int[] row = Edges.pattern(many);
            int[] frame = Edges.frameOf(row);
            Edges.Start start = Edges.Start.of(65536).with(0, 0, frame).with(3, 2, 9, 9, 9);
            Edges.taken(start, "frame of " + many, many, start.placed(0, frame.length).with(3, 0, row), x -> x.readFrame(0, 3));
            int[] less = Edges.part(frame, 0, frame.length - 1);
            Edges.refused(start.with(0, 0, less), "a byte less", Edges.ENDS, x -> x.readFrame(0, 3));
        }
        Edges.Start two = at2(Edges.joined(Edges.frameOf(1, 2, 3), Edges.frameOf(4)));
        Edges.taken(two, "the second of two frames", 1, two.placed(0, 16).with(1, 0, 4), x -> {
            x.readFrame(0, 1);
            return x.readFrame(0, 1);
        });
    }

    private static void readFrameRefused() {
        Edges.sentence("Promise 17", "likewise.");
        int[] frame = Edges.frameOf(10, 20, 30);
        for (int size = 0; size < frame.length; size++) {
            Edges.refused(at2(Edges.part(frame, 0, size)), size + " bytes of a frame", Edges.ENDS, x -> x.readFrame(0, 1));
        }
        int[] none = Edges.frameOf();
        for (int size = 0; size < none.length; size++) {
            Edges.refused(at2(Edges.part(none, 0, size)), size + " bytes of a frame of none", Edges.ENDS,
                x -> x.readFrame(0, 1));
        }
        for (int[] row : WRONG_NUMBERS) {
            Edges.refused(at2(row), "a wrong number", Edges.WRONG, x -> x.readFrame(0, 1));
        }
        Edges.refused(at2(129, 128, 4, 1, 2, 3, 4, 5), "65537 bytes", Edges.WRONG, x -> x.readFrame(0, 1));
        Edges.refused(at2(128, 128, 4, 1, 2, 3, 4, 5), "65536 bytes", Edges.ENDS, x -> x.readFrame(0, 1));
        for (int k : Edges.NO_ROWS) {
            Edges.refused(at2(frame), "to no row", Edges.NO_ROW, x -> x.readFrame(0, k));
            Edges.refused(at2(frame), "from no row", Edges.NO_ROW, x -> x.readFrame(k, 1));
        }
    }

    private static void otherSum() {
        Edges.sentence("Promise 17", "UnsupportedOperationException, when the sum is another one");
        int[][] insides = {{}, {0}, {255}, {10, 20}, {0, 0, 0, 0}};
        for (int[] inside : insides) {
            int[] frame = Edges.frameOf(inside);
            // From the sum's first bit to the last bit of the bytes: the number before them is right.
            for (int bit = 8; bit < 8 * frame.length; bit++) {
                int[] turned = frame.clone();
                turned[bit / 8] ^= 1 << bit % 8;
                Edges.refused(at2(turned), "bit " + bit + " turned", Edges.OTHER_SUM, x -> x.readFrame(0, 1));
                Edges.refused(at2(Edges.joined(turned, Edges.bytes(1, 2))), "bit " + bit + " turned, more behind",
                    Edges.OTHER_SUM, x -> x.readFrame(0, 1));
            }
        }
        Edges.refused(at2(1, 0, 0, 0, 0, 7), "no sum at all", Edges.OTHER_SUM, x -> x.readFrame(0, 1));
        int[] sum = Edges.lowest(Edges.sumOf(7), 4);
        Edges.refused(at2(1, sum[3], sum[2], sum[1], sum[0], 7), "the highest first", Edges.OTHER_SUM, x -> x.readFrame(0, 1));
        for (int k : Edges.NO_ROWS) {
            Edges.refused(at2(0, 1, 0, 0, 0), "another sum to no row", Edges.NO_ROW, x -> x.readFrame(0, k));
        }
        Edges.refused(at2(0, 1, 0, 0, 0), "another sum to itself", Edges.WRONG, x -> x.readFrame(0, 0));
    }

    private static void otherSumBehind() {
        Edges.sentence("Promise 17", "(behind what is wrong and what ends).");
        int[] frame = Edges.frameOf(10, 20, 30);
        for (int bit = 8; bit < 40; bit++) {
            int[] turned = frame.clone();
            turned[bit / 8] ^= 1 << bit % 8;
            for (int size = 5; size < frame.length; size++) {
                Edges.refused(at2(Edges.part(turned, 0, size)), "another sum, " + size + " bytes", Edges.ENDS,
                    x -> x.readFrame(0, 1));
            }
        }
        Edges.refused(at2(129, 128, 4, 9, 9, 9, 9, 9), "above 65536 with another sum", Edges.WRONG, x -> x.readFrame(0, 1));
        Edges.refused(at2(128, 0, 9, 9, 9, 9), "a wrong number with another sum", Edges.WRONG, x -> x.readFrame(0, 1));
        Edges.refused(at2(9, 9, 9, 9, 9, 9), "the row ends with another sum", Edges.ENDS, x -> x.readFrame(0, 1));
    }

    /** A call that reads is refused as often as it is tried, and what is right is read as before. */
    private static void nothingIsRead() {
        Edges.sentence("What it is", "everything that does not stand as it should is refused, and nothing is read then.");
        int[] frame = Edges.frameOf(10, 20);
        int[] broken = frame.clone();
        broken[6] ^= 1;
        Edges.taken(at2(broken), "readFrame when the bit is turned back", 2,
            at2(frame).placed(0, 9).with(1, 0, 10, 20), x -> {
                Edges.answer(x, d -> d.readFrame(0, 1));
                Edges.answer(x, d -> d.readFrame(0, 1));
                x.turn(0, 8 * 8);
                return x.readFrame(0, 1);
            });
        Edges.taken(at2(226, 130), "readLetter when the last byte is there", 8364, at2(226, 130, 172).placed(0, 5), x -> {
            Edges.answer(x, d -> d.readLetter(0));
            x.fixed(0, 172, 1);
            return x.readLetter(0);
        });
        Edges.taken(at2(172), "readSevens when the last byte is there", 300, at2(172, 2).placed(0, 4), x -> {
            Edges.answer(x, d -> d.readSevens(0));
            x.fixed(0, 2, 1);
            return x.readSevens(0);
        });
        Edges.taken(at2(128, 0), "readFixed of wrong sevens", 128, at2(128, 0).placed(0, 4), x -> {
            Edges.answer(x, d -> d.readSevens(0));
            Edges.answer(x, d -> d.readSigned(0));
            Edges.answer(x, d -> d.readLetter(0));
            Edges.answer(x, d -> d.readBlock(0, 1));
            return x.readFixed(0, 2);
        });
    }
}
