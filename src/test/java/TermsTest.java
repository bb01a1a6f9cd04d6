import java.util.ArrayList;
import java.util.List;
import java.util.function.IntFunction;

/** The sentences before the promises: how long an object is used, and what the terms mean. */
public final class TermsTest {
    // All four rows alike: five bytes 0 are a frame of none, five letters, five numbers.
    private static final Edges.Start ALIKE = Edges.Start.of(16).with(0, 0, 0, 0, 0, 0, 0).with(1, 0, 0, 0, 0, 0, 0)
        .with(2, 0, 0, 0, 0, 0, 0).with(3, 0, 0, 0, 0, 0, 0);

    // All four rows full, their places at the end: nothing can be written or read.
    private static final Edges.Start STUCK = Edges.Start.of(16).with(0, 16, Edges.pattern(16))
        .with(1, 16, Edges.pattern(16)).with(2, 16, Edges.pattern(16)).with(3, 16, Edges.pattern(16));

    private static final int[] PLACED = {9, 9, 9};

    /** A call that names a row; behind it the desk ALIKE stands as after says. */
    private record RowCall(String name, Object due, IntFunction<Edges.Start> after, IntFunction<Edges.Call> of) {
    }

    public static void main(String[] args) {
        manyCalls();
        rowNumbers();
        rowBytes();
        rowLimit();
        rowsAtFirst();
        placeWithinRow();
        toWrite();
        toRead();
        throwsChangeNothing();
        sevensGroups();
        sevensBytes();
        sevensRead();
        sevensWrong();
        signedBytes();
        whatLettersAre();
        letterBytes();
        letterWrong();
        theSum();
        blockAndFrame();
        blockAndFrameWrong();
        readingEnds();
        Edges.end();
    }

    // ---- rows

    private static void manyCalls() {
        Edges.sentence("What it is", "An object is used for at most 512 calls after it has been made;"
            + " what later calls answer is free.");
        PacketDesk x = new PacketDesk(1000);
        for (int call = 1; call < 512; call++) {
            Edges.due("call " + call, call, x.fixed(0, call, 1));
        }
        Edges.due("the last call", 511 & 255, x.byteAt(0, 510));
        PacketDesk y = new PacketDesk(16);
        for (int call = 1; call < 512; call++) {
            Edges.due("refused call " + call, Edges.ENDS, Edges.answer(y, d -> d.readLetter(0)));
        }
        Edges.due("the last call behind refused ones", 8, y.fixed(0, 1, 8));
    }

    private static int other(int k) {
        return k == 1 ? 2 : 1;
    }

    private static Edges.Start longer(int k, int... more) {
        return ALIKE.with(k, 0, Edges.joined(ALIKE.row(k), more));
    }

    private static List<RowCall> rowCalls() {
        List<RowCall> calls = new ArrayList<>();
        IntFunction<Edges.Start> stays = k -> ALIKE;
        IntFunction<Edges.Start> oneRead = k -> ALIKE.placed(k, 1);
        IntFunction<Edges.Start> oneMore = k -> longer(k, 7);
        calls.add(new RowCall("fixed", 6, oneMore, k -> x -> x.fixed(k, 7, 1)));
        calls.add(new RowCall("sevens", 1, oneMore, k -> x -> x.sevens(k, 7)));
        calls.add(new RowCall("signed", 1, oneMore, k -> x -> x.signed(k, -4)));
        calls.add(new RowCall("letter", 1, oneMore, k -> x -> x.letter(k, 7)));
        calls.add(new RowCall("copy", 6, k -> longer(k, 0), k -> x -> x.copy(k, other(k), 0, 1)));
        calls.add(new RowCall("copy from", 6, k -> longer(other(k), 0), k -> x -> x.copy(other(k), k, 0, 1)));
        calls.add(new RowCall("block", 6, k -> longer(k, 5, 0, 0, 0, 0, 0), k -> x -> x.block(k, other(k))));
        calls.add(new RowCall("block from", 6, k -> longer(other(k), 5, 0, 0, 0, 0, 0), k -> x -> x.block(other(k), k)));
        int[] frame = Edges.frameOf(0, 0, 0, 0, 0);
        calls.add(new RowCall("frame", 10, k -> longer(k, frame), k -> x -> x.frame(k, other(k))));
        calls.add(new RowCall("frame from", 10, k -> longer(other(k), frame), k -> x -> x.frame(other(k), k)));
        calls.add(new RowCall("cut", 5, k -> ALIKE.with(k, 0, 0, 0), k -> x -> x.cut(k, 2)));
        calls.add(new RowCall("turn", 128, k -> ALIKE.with(k, 0, 0, 0, 0, 128, 0), k -> x -> x.turn(k, 31)));
        calls.add(new RowCall("place", 0, oneRead, k -> x -> x.place(k, 1)));
        calls.add(new RowCall("readFixed", 0, oneRead, k -> x -> x.readFixed(k, 1)));
        calls.add(new RowCall("readSevens", 0, oneRead, k -> x -> x.readSevens(k)));
        calls.add(new RowCall("readSigned", 0, oneRead, k -> x -> x.readSigned(k)));
        calls.add(new RowCall("readLetter", 0, oneRead, k -> x -> x.readLetter(k)));
        calls.add(new RowCall("readBlock", 0, k -> ALIKE.placed(k, 1).with(other(k), 0), k -> x -> x.readBlock(k, other(k))));
        calls.add(new RowCall("readBlock to", 0, k -> ALIKE.placed(other(k), 1).with(k, 0), k -> x -> x.readBlock(other(k), k)));
        calls.add(new RowCall("readFrame", 0, k -> ALIKE.placed(k, 5).with(other(k), 0), k -> x -> x.readFrame(k, other(k))));
        calls.add(new RowCall("readFrame to", 0, k -> ALIKE.placed(other(k), 5).with(k, 0), k -> x -> x.readFrame(other(k), k)));
        calls.add(new RowCall("letters", 5, stays, k -> x -> x.letters(k, 0, 5)));
        calls.add(new RowCall("sum", Edges.sumOf(0, 0), stays, k -> x -> x.sum(k, 0, 2)));
        calls.add(new RowCall("same", true, stays, k -> x -> x.same(k, other(k))));
        calls.add(new RowCall("same other", true, stays, k -> x -> x.same(other(k), k)));
        calls.add(new RowCall("row", 5, stays, k -> x -> x.row(k, 0)));
        calls.add(new RowCall("byteAt", 0, stays, k -> x -> x.byteAt(k, 4)));
        return calls;
    }

    private static void rowNumbers() {
        Edges.sentence("Terms", "ROWS have numbers 0 .. 3;");
        for (RowCall call : rowCalls()) {
            for (int k = 0; k < 4; k++) {
                Edges.taken(ALIKE, call.name + " of row " + k, call.due, call.after.apply(k), call.of.apply(k));
            }
            for (int k : Edges.NO_ROWS) {
                Edges.refused(ALIKE, call.name + " of row " + k, Edges.NO_ROW, call.of.apply(k));
                Edges.refused(STUCK, call.name + " of row " + k, Edges.NO_ROW, call.of.apply(k));
            }
        }
    }

    private static void rowBytes() {
        Edges.sentence("Terms", "each has bytes (0 .. 255, byte 0 the first),");
        PacketDesk x = new PacketDesk(256);
        for (int b = 0; b < 256; b++) {
            x.fixed(2, b, 1);
        }
        for (int b = 0; b < 256; b++) {
            Edges.due("byte " + b, b, x.byteAt(2, b));
        }
        for (int v : new int[] {256, 511, -1, -128, -129, Integer.MIN_VALUE}) {
            PacketDesk y = new PacketDesk(16);
            y.fixed(0, v, 1);
            Edges.due("byte of " + v, v & 255, y.byteAt(0, 0));
        }
    }

    private static void rowLimit() {
        Edges.sentence("Terms", "at most as many as the constructor says,");
        for (int limit : new int[] {16, 17, 64, 100, 65535, 65536}) {
            for (int k = 0; k < 4; k++) {
                int row = k;
                int[] nearly = Edges.pattern(limit - 1);
                Edges.Start last = Edges.Start.of(limit).with(k, 3, nearly).with(other(k), 0, 7);
                Edges.Start full = last.with(k, 3, Edges.joined(nearly, Edges.bytes(7)));
                Edges.taken(last, "the last byte", limit, full, x -> x.fixed(row, 7, 1));
                Edges.taken(last, "the last byte by sevens", 1, full, x -> x.sevens(row, 7));
                Edges.taken(last, "the last byte by signed", 1, full, x -> x.signed(row, -4));
                Edges.taken(last, "the last byte by letter", 1, full, x -> x.letter(row, 7));
                Edges.taken(last, "the last byte by copy", limit, full, x -> x.copy(row, other(row), 0, 1));
                Edges.Start all = Edges.Start.of(limit).with(k, 3, Edges.pattern(limit)).with(other(k), 0, 7);
                Edges.refused(all, "a byte more", Edges.TOO_LONG, x -> x.fixed(row, 7, 1));
                Edges.refused(all, "a byte more by sevens", Edges.TOO_LONG, x -> x.sevens(row, 7));
                Edges.refused(all, "a byte more by signed", Edges.TOO_LONG, x -> x.signed(row, -4));
                Edges.refused(all, "a byte more by letter", Edges.TOO_LONG, x -> x.letter(row, 7));
                Edges.refused(all, "a byte more by copy", Edges.TOO_LONG, x -> x.copy(row, other(row), 0, 1));
                Edges.refused(all, "a byte more by block", Edges.TOO_LONG, x -> x.block(row, other(row)));
                Edges.refused(all, "a byte more by frame", Edges.TOO_LONG, x -> x.frame(row, other(row)));
            }
        }
    }

    private static void rowsAtFirst() {
        Edges.sentence("Terms", "none at first, and a PLACE, 0 at first,");
        Edges.Start fresh = Edges.Start.of(16);
        for (int k = 0; k < 4; k++) {
            int row = k;
            Edges.looked(fresh, "how many", 0, x -> x.row(row, 0));
            Edges.looked(fresh, "the place", 0, x -> x.row(row, 1));
            Edges.looked(fresh, "how many from the place on", 0, x -> x.row(row, 2));
            Edges.refused(fresh, "byte 0", Edges.WRONG, x -> x.byteAt(row, 0));
        }
    }

    private static void placeWithinRow() {
        Edges.sentence("Terms", "which is never behind its end.");
        Edges.Start atEnd = Edges.Start.of(16).with(0, 3, 0, 5, 6).with(1, 4, 1, 2, 3, 4);
        Edges.taken(atEnd, "cut(0, 2)", 3, atEnd.with(0, 2, 0, 5), x -> x.cut(0, 2));
        Edges.taken(atEnd, "cut(0, 0)", 3, atEnd.with(0, 0), x -> x.cut(0, 0));
        Edges.refused(atEnd, "place(0, 4)", Edges.WRONG, x -> x.place(0, 4));
        Edges.refused(atEnd, "readFixed(0, 1)", Edges.ENDS, x -> x.readFixed(0, 1));
        Edges.refused(atEnd, "readSevens(0)", Edges.ENDS, x -> x.readSevens(0));
        Edges.refused(atEnd, "readSigned(0)", Edges.ENDS, x -> x.readSigned(0));
        Edges.refused(atEnd, "readLetter(0)", Edges.ENDS, x -> x.readLetter(0));
        Edges.refused(atEnd, "readBlock(0, 1)", Edges.ENDS, x -> x.readBlock(0, 1));
        Edges.refused(atEnd, "readFrame(0, 1)", Edges.ENDS, x -> x.readFrame(0, 1));
        Edges.taken(atEnd.placed(0, 0), "readBlock to a row with a far place", 0, atEnd.placed(0, 1).with(1, 0),
            x -> x.readBlock(0, 1));
        Edges.taken(atEnd.placed(0, 2), "the last byte", 6, atEnd, x -> x.readFixed(0, 1));
    }

    private static void toWrite() {
        Edges.sentence("Terms", "TO WRITE means to put bytes behind the last one.");
        for (int place = 0; place <= 3; place++) {
            Edges.Start start = Edges.Start.of(30).with(1, place, PLACED).with(2, 1, 4, 5);
            int at = place;
            IntFunction<Edges.Start> two = b -> start.with(1, at, 9, 9, 9, b & 255, b >> 8);
            Edges.taken(start, "fixed", 5, two.apply(0x0201), x -> x.fixed(1, 0x0201, 2));
            Edges.taken(start, "sevens", 2, two.apply(0x02AC), x -> x.sevens(1, 300));
            Edges.taken(start, "signed", 2, two.apply(0x02AC), x -> x.signed(1, 150));
            Edges.taken(start, "letter", 2, two.apply(0xA4C3), x -> x.letter(1, 228));
            Edges.taken(start, "copy", 5, two.apply(0x0504), x -> x.copy(1, 2, 0, 2));
            Edges.taken(start, "copy of itself", 5, two.apply(0x0909), x -> x.copy(1, 1, 1, 2));
            Edges.taken(start, "block", 3, start.with(1, at, 9, 9, 9, 2, 4, 5), x -> x.block(1, 2));
            Edges.taken(start, "block of itself", 4, start.with(1, at, 9, 9, 9, 3, 9, 9, 9), x -> x.block(1, 1));
            Edges.taken(start, "frame", 7, start.with(1, at, Edges.joined(PLACED, Edges.frameOf(4, 5))),
                x -> x.frame(1, 2));
        }
    }

    private static void toRead() {
        Edges.sentence("Terms", "TO READ means to take the bytes from the place on; the place is behind them then.");
        int[] head = {255, 255};
        int[] tail = {255};
        Edges.Start fixed = Edges.Start.of(40).with(3, 2, Edges.joined(head, Edges.bytes(1, 2, 3), tail));
        Edges.taken(fixed, "readFixed", 0x030201, fixed.placed(3, 5), x -> x.readFixed(3, 3));
        Edges.Start sevens = Edges.Start.of(40).with(3, 2, Edges.joined(head, Edges.bytes(172, 2), tail));
        Edges.taken(sevens, "readSevens", 300, sevens.placed(3, 4), x -> x.readSevens(3));
        Edges.taken(sevens, "readSigned", 150, sevens.placed(3, 4), x -> x.readSigned(3));
        Edges.Start letter = Edges.Start.of(40).with(3, 2, Edges.joined(head, Edges.bytes(226, 130, 172), tail));
        Edges.taken(letter, "readLetter", 8364, letter.placed(3, 5), x -> x.readLetter(3));
        Edges.Start block = Edges.Start.of(40).with(3, 2, Edges.joined(head, Edges.blockOf(7, 8), tail));
        Edges.taken(block, "readBlock", 2, block.placed(3, 5).with(0, 0, 7, 8), x -> x.readBlock(3, 0));
        Edges.Start frame = Edges.Start.of(40).with(3, 2, Edges.joined(head, Edges.frameOf(7, 8), tail));
        Edges.taken(frame, "readFrame", 2, frame.placed(3, 9).with(0, 0, 7, 8), x -> x.readFrame(3, 0));
    }

    private static void throwsChangeNothing() {
        Edges.sentence("Terms", "A call that throws changes nothing.");
        // Row 0 is full, and a frame with another sum begins at its place.
        int[] broken = Edges.frameOf(7, 8);
        broken[1] ^= 1;
        Edges.Start start = Edges.Start.of(16).with(0, 2, Edges.joined(Edges.bytes(5, 6), broken, Edges.pattern(7)))
            .with(1, 1, 9, 128, 0).with(2, 2, 1, 2, 3, 4).with(3, 1, 9, 5, 6, 7);
        Edges.refused(start, "fixed of a full row", Edges.TOO_LONG, x -> x.fixed(0, -1, 8));
        Edges.refused(start, "sevens of a full row", Edges.TOO_LONG, x -> x.sevens(0, -1));
        Edges.refused(start, "signed of a full row", Edges.TOO_LONG, x -> x.signed(0, Long.MIN_VALUE));
        Edges.refused(start, "letter of a full row", Edges.TOO_LONG, x -> x.letter(0, 65536));
        Edges.refused(start, "copy to a full row", Edges.TOO_LONG, x -> x.copy(0, 2, 0, 4));
        Edges.refused(start, "copy of a full row to another", Edges.TOO_LONG, x -> x.copy(2, 0, 0, 16));
        Edges.refused(start, "block to a full row", Edges.TOO_LONG, x -> x.block(0, 2));
        Edges.refused(start, "block of a full row", Edges.TOO_LONG, x -> x.block(2, 0));
        Edges.refused(start, "frame to a full row", Edges.TOO_LONG, x -> x.frame(0, 2));
        Edges.refused(start, "frame of a full row", Edges.TOO_LONG, x -> x.frame(2, 0));
        Edges.refused(start, "fixed of 9", Edges.WRONG, x -> x.fixed(2, -1, 9));
        Edges.refused(start, "no letter", Edges.WRONG, x -> x.letter(2, 55296));
        Edges.refused(start, "copy of too many", Edges.WRONG, x -> x.copy(2, 3, 3, 2));
        Edges.refused(start, "cut of too many", Edges.WRONG, x -> x.cut(2, 5));
        Edges.refused(start, "turn behind the end", Edges.WRONG, x -> x.turn(2, 32));
        Edges.refused(start, "place behind the end", Edges.WRONG, x -> x.place(2, 5));
        Edges.refused(start, "readFixed of 9", Edges.WRONG, x -> x.readFixed(2, 9));
        Edges.refused(start, "readFixed that ends", Edges.ENDS, x -> x.readFixed(2, 3));
        Edges.refused(start, "readSevens of wrong ones", Edges.WRONG, x -> x.readSevens(1));
        Edges.refused(start, "readSigned of wrong ones", Edges.WRONG, x -> x.readSigned(1));
        Edges.refused(start, "readLetter of a wrong one", Edges.WRONG, x -> x.readLetter(1));
        Edges.refused(start, "readBlock of a wrong one", Edges.WRONG, x -> x.readBlock(1, 2));
        Edges.refused(start, "readFrame of a wrong one", Edges.WRONG, x -> x.readFrame(1, 2));
        Edges.refused(start, "readBlock that ends", Edges.ENDS, x -> x.readBlock(3, 2));
        Edges.refused(start, "readFrame that ends", Edges.ENDS, x -> x.readFrame(3, 2));
        Edges.refused(start, "readBlock to the same", Edges.WRONG, x -> x.readBlock(0, 0));
        Edges.refused(start, "readFrame to the same", Edges.WRONG, x -> x.readFrame(0, 0));
        Edges.refused(start, "readFrame of another sum", Edges.OTHER_SUM, x -> x.readFrame(0, 2));
        Edges.refused(start, "letters that are none", Edges.WRONG, x -> x.letters(1, 0, 3));
        Edges.refused(start, "sum of too many", Edges.WRONG, x -> x.sum(2, 0, 5));
        Edges.refused(start, "row 3", Edges.WRONG, x -> x.row(2, 3));
        Edges.refused(start, "byteAt behind the end", Edges.WRONG, x -> x.byteAt(2, 4));
        Edges.refused(start, "same of no row", Edges.NO_ROW, x -> x.same(2, 4));
        behindRefusedCalls();
    }

    /** What is written behind a refused call stands where it would have stood without it. */
    private static void behindRefusedCalls() {
        Edges.Start start = Edges.Start.of(16).with(0, 1, Edges.pattern(12));
        Edges.taken(start, "fixed behind refused calls", 13,
            start.with(0, 1, Edges.joined(Edges.pattern(12), Edges.bytes(7))), x -> {
                Edges.answer(x, d -> d.fixed(0, -1, 5));
                Edges.answer(x, d -> d.sevens(0, -1));
                Edges.answer(x, d -> d.signed(0, Long.MAX_VALUE));
                Edges.answer(x, d -> d.copy(0, 0, 0, 5));
                Edges.answer(x, d -> d.block(0, 0));
                Edges.answer(x, d -> d.frame(0, 0));
                Edges.answer(x, d -> d.readLetter(0));
                return x.fixed(0, 7, 1);
            });
    }

    // ---- sevens and signed

    private static final Edges.Start EMPTY = Edges.Start.of(16);

    private static void writtenAndRead(long v, int... row) {
        Edges.Start written = EMPTY.with(0, 0, row);
        Edges.taken(EMPTY, "sevens of " + v, row.length, written, x -> x.sevens(0, v));
        Edges.taken(written, "readSevens", v, written.placed(0, row.length), x -> x.readSevens(0));
    }

    private static void sevensGroups() {
        Edges.sentence("Terms", "SEVENS of a number v of 64 bits (without a sign): its lowest seven bits, then the next seven,"
            + " and so on, as long as any bits above are set, at least one group;");
        writtenAndRead(0, 0);
        writtenAndRead(1, 1);
        for (int groups = 1; groups < 10; groups++) {
            long first = 1L << 7 * groups;
            writtenAndRead(first - 1, Edges.joined(Edges.times(groups - 1, 255), Edges.bytes(127)));
            writtenAndRead(first, Edges.joined(Edges.times(groups, 128), Edges.bytes(1)));
        }
        writtenAndRead(-1, Edges.joined(Edges.times(9, 255), Edges.bytes(1)));
        writtenAndRead(-2, Edges.joined(Edges.bytes(254), Edges.times(8, 255), Edges.bytes(1)));
        writtenAndRead(Long.MIN_VALUE, Edges.joined(Edges.times(9, 128), Edges.bytes(1)));
        writtenAndRead(Long.MAX_VALUE, Edges.joined(Edges.times(8, 255), Edges.bytes(127)));
        writtenAndRead(Integer.MAX_VALUE, 255, 255, 255, 255, 7);
        writtenAndRead(1L << 31, 128, 128, 128, 128, 8);
        writtenAndRead(1L << 32, 128, 128, 128, 128, 16);
        writtenAndRead((1L << 32) - 1, 255, 255, 255, 255, 15);
    }

    private static void sevensBytes() {
        Edges.sentence("Terms", "each in a byte of its own, 128 more in all but the last one.");
        writtenAndRead(127, 127);
        writtenAndRead(128, 128, 1);
        writtenAndRead(129, 129, 1);
        writtenAndRead(255, 255, 1);
        writtenAndRead(256, 128, 2);
        writtenAndRead(300, 172, 2);
        writtenAndRead(1L + (2L << 7) + (3L << 14) + (4L << 21) + (5L << 28) + (6L << 35) + (7L << 42) + (8L << 49)
            + (9L << 56) + (1L << 63), 129, 130, 131, 132, 133, 134, 135, 136, 137, 1);
    }

    private static void sevensRead() {
        Edges.sentence("Terms", "Read: bytes from 128 on and one below that;");
        Edges.Start start = EMPTY.with(0, 0, 127, 128, 127, 0, 129, 1, 255, 128, 1);
        Edges.taken(start, "127 alone", 127, start.placed(0, 1), x -> x.readSevens(0));
        Edges.taken(start.placed(0, 1), "128 and 127", 127 << 7, start.placed(0, 3), x -> x.readSevens(0));
        Edges.taken(start.placed(0, 2), "the last of them alone", 127, start.placed(0, 3), x -> x.readSevens(0));
        Edges.taken(start.placed(0, 3), "0 alone", 0, start.placed(0, 4), x -> x.readSevens(0));
        Edges.taken(start.placed(0, 4), "129 and 1", 129, start.placed(0, 6), x -> x.readSevens(0));
        Edges.taken(start.placed(0, 6), "255, 128 and 1", 127 + (1 << 14), start.placed(0, 9), x -> x.readSevens(0));
    }

    private static void noSevens(String name, Class<?> due, int... row) {
        Edges.Start start = EMPTY.with(0, 0, row).with(1, 1, 5, 6);
        Edges.refused(start, "readSevens of " + name, due, x -> x.readSevens(0));
        Edges.refused(start, "readSigned of " + name, due, x -> x.readSigned(0));
        Edges.refused(start, "readBlock of " + name, due, x -> x.readBlock(0, 1));
        Edges.refused(start, "readFrame of " + name, due, x -> x.readFrame(0, 1));
    }

    private static void sevensWrong() {
        Edges.sentence("Terms", "it is WRONG when there are more than ten, the tenth is above 1, or the last of several is 0.");
        for (int b : new int[] {128, 129, 255}) {
            noSevens("eleven", Edges.WRONG, Edges.joined(Edges.times(10, b), Edges.bytes(1)));
            noSevens("eleven with 0", Edges.WRONG, Edges.joined(Edges.times(10, b), Edges.bytes(0)));
            noSevens("twelve", Edges.WRONG, Edges.joined(Edges.times(11, b), Edges.bytes(1)));
            noSevens("sixteen without an end", Edges.WRONG, Edges.times(16, b));
            for (int tenth : new int[] {0, 2, 3, 64, 127, 128, 129, 255}) {
                noSevens("tenth " + tenth, Edges.WRONG, Edges.joined(Edges.times(9, b), Edges.bytes(tenth)));
                noSevens("tenth " + tenth + " and more", Edges.WRONG,
                    Edges.joined(Edges.times(9, b), Edges.bytes(tenth, 1, 1)));
            }
            for (int before = 1; before <= 9; before++) {
                noSevens("last 0 behind " + before, Edges.WRONG,
                    Edges.joined(Edges.times(before, b), Edges.bytes(0)));
            }
        }
        Edges.Start ten = EMPTY.with(0, 0, Edges.joined(Edges.times(9, 128), Edges.bytes(1)));
        Edges.taken(ten, "ten with 1", Long.MIN_VALUE, ten.placed(0, 10), x -> x.readSevens(0));
        Edges.Start nine = EMPTY.with(0, 0, Edges.joined(Edges.times(8, 128), Edges.bytes(127)));
        Edges.taken(nine, "nine with 127", 127L << 56, nine.placed(0, 9), x -> x.readSevens(0));
        Edges.Start zero = EMPTY.with(0, 0, 0, 1);
        Edges.taken(zero, "0 alone", 0, zero.placed(0, 1), x -> x.readSevens(0));
        Edges.Start middle = EMPTY.with(0, 0, 128, 128, 1);
        Edges.taken(middle, "groups of 0 before the last", 1 << 14, middle.placed(0, 3), x -> x.readSevens(0));
    }

    private static void signedAndRead(long v, int... row) {
        Edges.Start written = EMPTY.with(0, 0, row);
        Edges.taken(EMPTY, "signed of " + v, row.length, written, x -> x.signed(0, v));
        Edges.taken(written, "readSigned", v, written.placed(0, row.length), x -> x.readSigned(0));
    }

    private static void signedBytes() {
        Edges.sentence("Terms", "SIGNED of v: the sevens of (v << 1) ^ (v >> 63).");
        signedAndRead(0, 0);
        signedAndRead(-1, 1);
        signedAndRead(1, 2);
        signedAndRead(-2, 3);
        for (int groups = 1; groups < 10; groups++) {
            long first = 1L << 7 * groups - 1;
            int[] low = Edges.times(groups - 1, 255);
            signedAndRead(first - 1, groups == 1 ? Edges.bytes(126)
                : Edges.joined(Edges.bytes(254), Edges.times(groups - 2, 255), Edges.bytes(127)));
            signedAndRead(-first, Edges.joined(low, Edges.bytes(127)));
            signedAndRead(first, Edges.joined(Edges.times(groups, 128), Edges.bytes(1)));
            signedAndRead(-first - 1, Edges.joined(Edges.bytes(129), Edges.times(groups - 1, 128), Edges.bytes(1)));
        }
        signedAndRead(Long.MAX_VALUE, Edges.joined(Edges.bytes(254), Edges.times(8, 255), Edges.bytes(1)));
        signedAndRead(Long.MIN_VALUE, Edges.joined(Edges.times(9, 255), Edges.bytes(1)));
    }

    // ---- letters

    private static void whatLettersAre() {
        Edges.sentence("Terms", "A LETTER is a number 0 .. 1114111, but 55296 .. 57343.");
        int[] letters = {0, 1, 55294, 55295, 57344, 57345, 1114110, 1114111};
        for (int c : letters) {
            Edges.due("letter " + c, true, new PacketDesk(16).letter(0, c) > 0);
        }
        int[] none = {-1, -65, Integer.MIN_VALUE, 55296, 55297, 56319, 56320, 57342, 57343, 1114112, 1114113, 2097152,
            Integer.MAX_VALUE};
        Edges.Start start = EMPTY.with(0, 1, 7, 8);
        for (int c : none) {
            Edges.refused(start, "letter " + c, Edges.WRONG, x -> x.letter(0, c));
        }
    }

    private static void letterIs(int c, int... row) {
        Edges.Start written = EMPTY.with(0, 0, row);
        Edges.taken(EMPTY, "letter " + c, row.length, written, x -> x.letter(0, c));
        Edges.taken(written, "readLetter", c, written.placed(0, row.length), x -> x.readLetter(0));
        Edges.looked(written, "letters", 1, x -> x.letters(0, 0, row.length));
    }

    private static void letterBytes() {
        Edges.sentence("Terms", "Its bytes: below 128: itself; below 2048: 192 + its bits from 6 on, then 128 + its lowest six;"
            + " below 65536: 224 + its bits from 12 on, then 128 + the next six, 128 + the lowest six; else"
            + " 240 + its bits from 18 on, and three such.");
        letterIs(0, 0);
        letterIs(127, 127);
        letterIs(128, 194, 128);
        letterIs(191, 194, 191);
        letterIs(192, 195, 128);
        letterIs(2047, 223, 191);
        letterIs(2048, 224, 160, 128);
        letterIs(4095, 224, 191, 191);
        letterIs(4096, 225, 128, 128);
        letterIs(55295, 237, 159, 191);
        letterIs(57344, 238, 128, 128);
        letterIs(65535, 239, 191, 191);
        letterIs(65536, 240, 144, 128, 128);
        letterIs(262143, 240, 191, 191, 191);
        letterIs(262144, 241, 128, 128, 128);
        letterIs(1048575, 243, 191, 191, 191);
        letterIs(1048576, 244, 128, 128, 128);
        letterIs(1114111, 244, 143, 191, 191);
    }

    private static void letterWrong() {
        Edges.sentence("Terms", "Read: it is WRONG when the bytes are those of no letter.");
        int[][] wrong = {
            {128}, {191}, {192}, {193}, {245}, {247}, {248}, {255}, {254, 128, 128, 128},
            {192, 128}, {193, 191}, {194, 127}, {194, 192}, {223, 0}, {223, 255},
            {224, 128, 128}, {224, 159, 191}, {224, 160, 127}, {224, 160, 192}, {224, 127, 128}, {224, 192, 128},
            {237, 160, 128}, {237, 191, 191}, {239, 191, 192}, {239, 127, 191},
            {240, 128, 128, 128}, {240, 143, 191, 191}, {240, 144, 127, 128}, {240, 144, 192, 128},
            {240, 144, 128, 127}, {240, 144, 128, 192}, {240, 192, 128, 128},
            {244, 144, 128, 128}, {244, 191, 191, 191}, {244, 143, 191, 192}, {245, 128, 128, 128}};
        for (int[] row : wrong) {
            Edges.Start alone = EMPTY.with(0, 1, Edges.joined(Edges.bytes(65), row));
            Edges.refused(alone, "readLetter", Edges.WRONG, x -> x.readLetter(0));
            Edges.refused(alone, "letters", Edges.WRONG, x -> x.letters(0, 1, row.length));
            Edges.Start longer = EMPTY.with(0, 0, Edges.joined(row, Edges.bytes(65, 128, 65)));
            Edges.refused(longer, "readLetter with more behind", Edges.WRONG, x -> x.readLetter(0));
        }
    }

    // ---- the sum, blocks and frames

    private static void theSum() {
        Edges.sentence("Terms", "THE SUM of bytes: s is -1 (32 bits set) at first; for each byte: s is s ^ the byte; eight times:"
            + " is the lowest bit of s set, s is (s >>> 1) ^ -306674912, else s >>> 1. The sum is ~s in the end.");
        Edges.looked(EMPTY, "sum of none", 0, x -> x.sum(0, 0, 0));
        for (int b = 0; b < 256; b++) {
            Edges.looked(EMPTY.with(0, 0, b), "sum of " + b, Edges.sumOf(b), x -> x.sum(0, 0, 1));
        }
        Edges.looked(EMPTY.with(0, 0, 0), "sum of 0", 0xD202EF8D, x -> x.sum(0, 0, 1));
        Edges.looked(EMPTY.with(0, 0, 255, 255, 255, 255), "sum of -1", -1, x -> x.sum(0, 0, 4));
        Edges.looked(EMPTY.with(0, 0, 49, 50, 51, 52, 53, 54, 55, 56, 57), "sum of digits", 0xCBF43926, x -> x.sum(0, 0, 9));
        Edges.Start large = Edges.Start.of(65536).with(0, 0, Edges.pattern(65536));
        Edges.looked(large, "sum of a full row", Edges.sumOf(Edges.pattern(65536)), x -> x.sum(0, 0, 65536));
    }

    private static void blockAndFrame() {
        Edges.sentence("Terms", "A BLOCK of bytes: the sevens of how many, and the bytes. A FRAME: the sevens of how many,"
            + " their sum in four bytes, the lowest first, and the bytes.");
        for (int many : new int[] {0, 1, 2, 3, 126, 127, 128, 129, 16383, 16384}) {
            int[] row = Edges.pattern(many);
            Edges.Start start = Edges.Start.of(40000).with(1, 0, row);
            int[] block = Edges.blockOf(row);
            Edges.Start withBlock = start.with(0, 0, block);
            Edges.taken(start, "block", block.length, withBlock, x -> x.block(0, 1));
            Edges.taken(withBlock, "readBlock", many, withBlock.placed(0, block.length).with(2, 0, row), x -> x.readBlock(0, 2));
            int[] frame = Edges.frameOf(row);
            Edges.Start withFrame = start.with(0, 0, frame);
            Edges.taken(start, "frame", frame.length, withFrame, x -> x.frame(0, 1));
            Edges.taken(withFrame, "readFrame", many, withFrame.placed(0, frame.length).with(2, 0, row), x -> x.readFrame(0, 2));
        }
    }

    private static void blockAndFrameWrong() {
        Edges.sentence("Terms", "A block or frame is wrong, when its number is, or is above 65536.");
        // 65536 bytes with their number are more than a row can have: then it is not wrong, it ends.
        for (int limit : new int[] {16, 65536}) {
            for (long many : new long[] {65535, 65536}) {
                Edges.Start start = Edges.Start.of(limit).with(0, 0, Edges.sevensOf((int) many)).with(1, 1, 5, 6);
                Edges.refused(start, "block of " + many, Edges.ENDS, x -> x.readBlock(0, 1));
                Edges.refused(start, "frame of " + many, Edges.ENDS, x -> x.readFrame(0, 1));
            }
        }
        int[] head = Edges.sevensOf(65536);
        Edges.Start full = Edges.Start.of(65536).with(0, 0, Edges.joined(head, Edges.pattern(65533))).with(1, 1, 5, 6);
        Edges.refused(full, "block of 65536 in a full row", Edges.ENDS, x -> x.readBlock(0, 1));
        Edges.refused(full, "frame of 65536 in a full row", Edges.ENDS, x -> x.readFrame(0, 1));
        int[][] above = {{129, 128, 4}, {255, 255, 127}, {128, 128, 128, 1}, {128, 128, 128, 128, 8},
            {128, 128, 128, 128, 16}, {129, 128, 128, 128, 16}, {128, 128, 128, 128, 128, 128, 128, 128, 127},
            {128, 128, 128, 128, 128, 128, 128, 128, 128, 1}, {255, 255, 255, 255, 255, 255, 255, 255, 255, 1}};
        for (int[] number : above) {
            for (int more : new int[] {0, 5}) {
                Edges.Start start = EMPTY.with(0, 0, Edges.joined(number, Edges.times(more, 0))).with(1, 1, 5, 6);
                Edges.refused(start, "block with a number above", Edges.WRONG, x -> x.readBlock(0, 1));
                Edges.refused(start, "frame with a number above", Edges.WRONG, x -> x.readFrame(0, 1));
            }
        }
        int[][] wrongNumbers = {{128, 0}, {129, 0}, {129, 128, 0}, {128, 128, 128, 128, 128, 128, 128, 128, 128, 0},
            {128, 128, 128, 128, 128, 128, 128, 128, 128, 2}};
        for (int[] number : wrongNumbers) {
            Edges.Start start = EMPTY.with(0, 0, Edges.joined(number, Edges.times(6, 0))).with(1, 1, 5, 6);
            Edges.refused(start, "block with a wrong number", Edges.WRONG, x -> x.readBlock(0, 1));
            Edges.refused(start, "frame with a wrong number", Edges.WRONG, x -> x.readFrame(0, 1));
        }
    }

    // ---- ends

    private static void eachBeginningEnds(String name, int[] whole, Object due, Edges.Call call) {
        for (int size = 0; size < whole.length; size++) {
            Edges.Start start = Edges.Start.of(64).with(0, 2, Edges.joined(Edges.bytes(7, 8), Edges.part(whole, 0, size)))
                .with(1, 1, 5, 6);
            Edges.refused(start, name + " with " + size + " bytes", Edges.ENDS, call);
        }
        Edges.Start all = Edges.Start.of(64).with(0, 2, Edges.joined(Edges.bytes(7, 8), whole));
        Edges.due(name + " whole", due, Edges.answer(all.desk(), call));
    }

    private static void readingEnds() {
        Edges.sentence("Terms", "READING something ENDS, when the row does before it is whole, and nothing before that is"
            + " wrong (of a letter also, what there is could go on to be one).");
        for (int n = 1; n <= 8; n++) {
            int width = n;
            eachBeginningEnds("readFixed", Edges.times(n, 255), n == 8 ? -1L : (1L << 8 * n) - 1, x -> x.readFixed(0, width));
        }
        eachBeginningEnds("readSevens", Edges.joined(Edges.times(9, 255), Edges.bytes(1)), -1L, x -> x.readSevens(0));
        eachBeginningEnds("readSevens of 0s", Edges.joined(Edges.times(9, 128), Edges.bytes(1)), Long.MIN_VALUE,
            x -> x.readSevens(0));
        eachBeginningEnds("readSigned", Edges.joined(Edges.times(9, 255), Edges.bytes(1)), Long.MIN_VALUE,
            x -> x.readSigned(0));
        eachBeginningEnds("readBlock", Edges.blockOf(9, 8, 7), 3, x -> x.readBlock(0, 1));
        eachBeginningEnds("readFrame", Edges.frameOf(9, 8, 7), 3, x -> x.readFrame(0, 1));
        int[][] letters = {{0}, {194, 128}, {223, 191}, {224, 160, 128}, {224, 191, 191}, {225, 128, 128}, {237, 128, 128},
            {237, 159, 191}, {238, 128, 128}, {239, 191, 191}, {240, 144, 128, 128}, {240, 191, 191, 191},
            {241, 128, 128, 128}, {243, 191, 191, 191}, {244, 128, 128, 128}, {244, 143, 191, 191}};
        for (int[] letter : letters) {
            String text = new String(toBytes(letter), java.nio.charset.StandardCharsets.UTF_8);
            eachBeginningEnds("readLetter", letter, text.codePointAt(0), x -> x.readLetter(0));
        }
        wrongBeforeTheEnd();
        cutOffNumbers();
    }

    private static byte[] toBytes(int[] row) {
        byte[] out = new byte[row.length];
        for (int i = 0; i < row.length; i++) {
            out[i] = (byte) row[i];
        }
        return out;
    }

    /** The row ends too early, but what there is can already be no such thing. */
    private static void wrongBeforeTheEnd() {
        int[][] noLetters = {{128}, {192}, {193}, {245}, {255}, {224, 128}, {224, 159}, {225, 127}, {225, 192}, {237, 160},
            {237, 191}, {240, 128}, {240, 143}, {240, 143, 191}, {241, 127}, {241, 128, 127}, {241, 128, 192}, {244, 144},
            {244, 144, 128}, {244, 191}};
        for (int[] row : noLetters) {
            Edges.refused(EMPTY.with(0, 1, Edges.joined(Edges.bytes(7), row)), "readLetter", Edges.WRONG, x -> x.readLetter(0));
        }
        noSevens("ten from 128 on", Edges.WRONG, Edges.times(10, 128));
        noSevens("0 as the last of two", Edges.WRONG, 129, 0);
        Edges.Start above = EMPTY.with(0, 0, 129, 128, 4).with(1, 1, 5, 6);
        Edges.refused(above, "readBlock of 65537", Edges.WRONG, x -> x.readBlock(0, 1));
        Edges.refused(above, "readFrame of 65537", Edges.WRONG, x -> x.readFrame(0, 1));
    }

    /** A number that the row cuts off is none yet, so that it is not above 65536 yet either. */
    private static void cutOffNumbers() {
        for (int size = 1; size <= 9; size++) {
            noSevens(size + " from 128 on", Edges.ENDS, Edges.times(size, 255));
        }
    }
}
