import java.util.NoSuchElementException;

/**
 * The document's promises one by one: ordinary inputs, the edges that it names, wrong inputs.
 * Each desk is used for less than 512 calls, because later answers are free.
 */
public final class PromiseTest {
    private static final Class<?> NO_ROW = IndexOutOfBoundsException.class;
    private static final Class<?> WRONG = IllegalArgumentException.class;
    private static final Class<?> TOO_LONG = IllegalStateException.class;
    private static final Class<?> ENDS = NoSuchElementException.class;
    private static final Class<?> OTHER_SUM = UnsupportedOperationException.class;

    private static final int[] NO_ROWS = {-1, 4, Integer.MIN_VALUE, Integer.MAX_VALUE};

    private static int wrong = 0;
    private static String promise = "";

    private interface Call {
        long answer(PacketDesk x);
    }

    public static void main(String[] args) {
        newObject();
        fixed();
        sevens();
        signed();
        letter();
        copy();
        block();
        frame();
        cut();
        turn();
        place();
        readFixed();
        readSevens();
        readSigned();
        readLetter();
        readLetterThatEnds();
        readBlock();
        readFrame();
        letters();
        sum();
        same();
        row();
        byteAt();
        System.out.println(wrong == 0 ? "all promises hold" : wrong + " answers are not as due");
        if (wrong != 0) {
            System.exit(1);
        }
    }

    // ---- helpers

    private static void due(String call, long want, long got) {
        if (got != want) {
            fault(call + " answered " + got + ", due is " + want);
        }
    }

    private static void fault(String text) {
        wrong++;
        System.out.println(promise + ": " + text);
    }

    /** The call throws just this class, and every row stays as it was. */
    private static void refused(PacketDesk x, String call, Class<?> want, Call c) {
        String before = state(x);
        Object got = "nothing";
        try {
            got = c.answer(x);
        } catch (RuntimeException e) {
            got = e.getClass();
        }
        if (got != want) {
            fault(call + " gave " + got + ", due is " + want);
        }
        if (!state(x).equals(before)) {
            fault(call + " changed " + before + " to " + state(x));
        }
    }

    private static String state(PacketDesk x) {
        StringBuilder text = new StringBuilder();
        for (int k = 0; k < 4; k++) {
            int size = x.row(k, 0);
            text.append(size).append('@').append(x.row(k, 1)).append('#').append(x.sum(k, 0, size)).append(' ');
        }
        return text.toString();
    }

    private static void holds(PacketDesk x, int k, int... bytes) {
        due("row(" + k + ", 0)", bytes.length, x.row(k, 0));
        for (int i = 0; i < bytes.length && i < x.row(k, 0); i++) {
            due("byteAt(" + k + ", " + i + ")", bytes[i], x.byteAt(k, i));
        }
    }

    private static void put(PacketDesk x, int k, int... bytes) {
        for (int b : bytes) {
            x.fixed(k, b, 1);
        }
    }

    private static PacketDesk desk(int... bytes) {
        PacketDesk x = new PacketDesk(100);
        put(x, 0, bytes);
        return x;
    }

    /** Row 0 has so many bytes, not all alike. */
    private static PacketDesk filled(int limit, int size) {
        PacketDesk x = new PacketDesk(limit);
        put(x, 0, 1, 200, 3);
        x.cut(0, Math.min(3, size));
        while (x.row(0, 0) < size) {
            x.copy(0, 0, 0, Math.min(x.row(0, 0), size - x.row(0, 0)));
        }
        return x;
    }

    /** Row 0 has n bytes 128 and then these. */
    private static PacketDesk longSevens(int n, int... bytes) {
        PacketDesk x = new PacketDesk(100);
        for (int i = 0; i < n; i++) {
            put(x, 0, 128);
        }
        put(x, 0, bytes);
        return x;
    }

    private static void noRows(PacketDesk x, String call, java.util.function.IntFunction<Call> withRow) {
        for (int k : NO_ROWS) {
            refused(x, call + " of row " + k, NO_ROW, withRow.apply(k));
        }
    }

    // ---- promises

    private static void newObject() {
        promise = "promise 1";
        PacketDesk x = new PacketDesk(100);
        for (int k = 0; k < 4; k++) {
            due("size", 0, x.row(k, 0));
            due("place", 0, x.row(k, 1));
        }
        int[][] limits = {{Integer.MIN_VALUE, 16}, {-1, 16}, {0, 16}, {15, 16}, {16, 16}, {17, 17}, {1000, 1000},
            {65535, 65535}, {65536, 65536}, {65537, 65536}, {Integer.MAX_VALUE, 65536}};
        for (int[] limit : limits) {
            for (int k = 0; k < 4; k++) {
                int row = k;
                PacketDesk y = filled(limit[0], 16);
                while (y.row(k, 0) < limit[1]) {
                    y.copy(k, 0, 0, Math.min(y.row(0, 0), limit[1] - y.row(k, 0)));
                    if (k != 0 && y.row(0, 0) * 2 <= limit[1]) {
                        y.copy(0, 0, 0, y.row(0, 0));
                    }
                }
                due("size of row " + k + " for limit " + limit[0], limit[1], y.row(k, 0));
                refused(y, "one byte more for limit " + limit[0], TOO_LONG, d -> d.fixed(row, 0, 1));
            }
        }
    }

    private static void fixed() {
        promise = "promise 2";
        PacketDesk x = new PacketDesk(16);
        due("fixed(0, .., 3)", 3, x.fixed(0, 0x1122334455667788L, 3));
        holds(x, 0, 0x88, 0x77, 0x66);
        due("fixed(0, -1, 1)", 4, x.fixed(0, -1, 1));
        due("fixed(0, .., 8)", 12, x.fixed(0, 0x8122334455667788L, 8));
        holds(x, 0, 0x88, 0x77, 0x66, 255, 0x88, 0x77, 0x66, 0x55, 0x44, 0x33, 0x22, 0x81);
        due("place", 0, x.row(0, 1));
        refused(x, "fixed of 5", TOO_LONG, d -> d.fixed(0, 1, 5));
        due("fixed of 4", 16, x.fixed(0, 1, 4));
        refused(x, "fixed of 1", TOO_LONG, d -> d.fixed(0, 1, 1));
        for (int n : new int[] {0, 9, -1, Integer.MIN_VALUE, Integer.MAX_VALUE}) {
            refused(x, "fixed of " + n, WRONG, d -> d.fixed(0, 1, n));
            refused(x, "fixed in no row of " + n, NO_ROW, d -> d.fixed(4, 1, n));
        }
        for (int n = 1; n <= 8; n++) {
            due("fixed of " + n, n, new PacketDesk(16).fixed(3, -1, n));
        }
        noRows(x, "fixed", k -> d -> d.fixed(k, 1, 1));
    }

    private static void sevens() {
        promise = "promise 3";
        PacketDesk x = new PacketDesk(100);
        due("sevens(0)", 1, x.sevens(0, 0));
        due("sevens(127)", 1, x.sevens(0, 127));
        due("sevens(128)", 2, x.sevens(0, 128));
        due("sevens(16383)", 2, x.sevens(0, 16383));
        due("sevens(16384)", 3, x.sevens(0, 16384));
        holds(x, 0, 0, 127, 128, 1, 255, 127, 128, 128, 1);
        due("sevens(-1)", 10, x.sevens(1, -1));
        holds(x, 1, 255, 255, 255, 255, 255, 255, 255, 255, 255, 1);
        due("sevens(300)", 2, x.sevens(2, 300));
        due("sevens(624485)", 3, x.sevens(2, 624485));
        holds(x, 2, 172, 2, 229, 142, 38);
        for (int groups = 1; groups < 10; groups++) {
            long first = 1L << (7 * groups);
            PacketDesk y = new PacketDesk(16);
            due("sevens of " + first, groups + 1, y.sevens(2, first));
            y.cut(2, 0);
            due("sevens of " + (first - 1), groups, y.sevens(2, first - 1));
        }
        PacketDesk z = filled(16, 15);
        refused(z, "two bytes", TOO_LONG, d -> d.sevens(0, 128));
        due("one byte", 1, z.sevens(0, 127));
        refused(z, "one byte", TOO_LONG, d -> d.sevens(0, 0));
        noRows(z, "sevens", k -> d -> d.sevens(k, 1));
    }

    private static void signed() {
        promise = "promise 4";
        PacketDesk x = new PacketDesk(100);
        long[] numbers = {0, -1, 1, -2, 63, -64};
        for (long v : numbers) {
            due("signed " + v, 1, x.signed(0, v));
        }
        due("signed 64", 2, x.signed(0, 64));
        due("signed -65", 2, x.signed(0, -65));
        holds(x, 0, 0, 1, 2, 3, 126, 127, 128, 1, 129, 1);
        due("the least", 10, x.signed(1, Long.MIN_VALUE));
        due("the most", 10, x.signed(1, Long.MAX_VALUE));
        holds(x, 1, 255, 255, 255, 255, 255, 255, 255, 255, 255, 1, 254, 255, 255, 255, 255, 255, 255, 255, 255, 1);
        PacketDesk z = filled(16, 15);
        refused(z, "two bytes", TOO_LONG, d -> d.signed(0, 64));
        due("one byte", 1, z.signed(0, -64));
        refused(z, "one byte", TOO_LONG, d -> d.signed(0, 0));
        noRows(z, "signed", k -> d -> d.signed(k, 1));
    }

    private static void letter() {
        promise = "promise 5";
        int[][] widths = {{0, 1}, {127, 1}, {128, 2}, {2047, 2}, {2048, 3}, {55295, 3}, {57344, 3}, {65535, 3},
            {65536, 4}, {1114111, 4}};
        for (int[] pair : widths) {
            due("letter " + pair[0], pair[1], new PacketDesk(16).letter(0, pair[0]));
        }
        PacketDesk x = new PacketDesk(16);
        x.letter(0, 65);
        x.letter(0, 228);
        x.letter(0, 8364);
        x.letter(0, 120120);
        holds(x, 0, 65, 195, 164, 226, 130, 172, 240, 157, 148, 184);
        for (int c : new int[] {-1, 55296, 56000, 57343, 1114112, Integer.MIN_VALUE, Integer.MAX_VALUE}) {
            refused(x, "letter " + c, WRONG, d -> d.letter(0, c));
        }
        refused(x, "no letter in no row", NO_ROW, d -> d.letter(4, -1));
        PacketDesk full = filled(16, 13);
        refused(full, "no letter", WRONG, d -> d.letter(0, -1));
        refused(full, "four bytes", TOO_LONG, d -> d.letter(0, 65536));
        due("three bytes", 3, full.letter(0, 65535));
        refused(full, "one byte", TOO_LONG, d -> d.letter(0, 0));
        refused(full, "no letter when full", WRONG, d -> d.letter(0, 55296));
        noRows(full, "letter", k -> d -> d.letter(k, 1));
    }

    private static void copy() {
        promise = "promise 6";
        PacketDesk x = desk(10, 20, 30, 200);
        due("copy", 2, x.copy(1, 0, 2, 2));
        due("copy", 3, x.copy(1, 0, 0, 1));
        holds(x, 1, 30, 200, 10);
        holds(x, 0, 10, 20, 30, 200);
        due("copy within a row", 7, x.copy(0, 0, 1, 3));
        holds(x, 0, 10, 20, 30, 200, 20, 30, 200);
        due("copy of none", 7, x.copy(0, 1, 0, 0));
        due("copy of none at the end", 3, x.copy(1, 0, 7, 0));
        due("copy of none of none", 0, x.copy(3, 2, 0, 0));
        int[][] wrongRanges = {{-1, 0}, {-1, 1}, {0, -1}, {0, 8}, {7, 1}, {8, 0}, {1, Integer.MAX_VALUE},
            {Integer.MAX_VALUE, 1}, {Integer.MAX_VALUE, Integer.MAX_VALUE}, {Integer.MIN_VALUE, Integer.MIN_VALUE}};
        for (int[] range : wrongRanges) {
            refused(x, "copy at " + range[0] + " of " + range[1], WRONG, d -> d.copy(1, 0, range[0], range[1]));
        }
        PacketDesk full = filled(16, 16);
        full.copy(1, 0, 0, 9);
        refused(full, "8 to 9 bytes", TOO_LONG, d -> d.copy(1, 0, 0, 8));
        due("7 to 9 bytes", 16, full.copy(1, 0, 0, 7));
        due("none to a full row", 16, full.copy(1, 0, 0, 0));
        refused(full, "one to a full row", TOO_LONG, d -> d.copy(1, 0, 0, 1));
        refused(full, "a wrong range to a full row", WRONG, d -> d.copy(1, 0, 0, 17));
        noRows(full, "copy", k -> d -> d.copy(k, 0, -1, 1));
        noRows(full, "copy from", k -> d -> d.copy(0, k, -1, 1));
    }

    private static void block() {
        promise = "promise 7";
        PacketDesk x = desk(10, 20, 200);
        x.place(0, 2);
        due("block", 4, x.block(1, 0));
        due("block of none", 1, x.block(1, 2));
        due("block of itself", 6, x.block(1, 1));
        holds(x, 1, 3, 10, 20, 200, 0, 5, 3, 10, 20, 200, 0);
        holds(x, 0, 10, 20, 200);
        due("place", 2, x.row(0, 1));
        PacketDesk y = filled(1000, 128);
        due("block of 128", 130, y.block(1, 0));
        due("first byte", 128, y.byteAt(1, 0));
        due("second byte", 1, y.byteAt(1, 1));
        PacketDesk full = filled(16, 16);
        refused(full, "block of 16", TOO_LONG, d -> d.block(1, 0));
        full.cut(0, 15);
        due("block of 15", 16, full.block(1, 0));
        refused(full, "block of none to a full row", TOO_LONG, d -> d.block(1, 2));
        refused(full, "block of itself", TOO_LONG, d -> d.block(0, 0));
        noRows(full, "block", k -> d -> d.block(k, 0));
        noRows(full, "block from", k -> d -> d.block(0, k));
    }

    private static void frame() {
        promise = "promise 8";
        PacketDesk x = desk('1', '2', '3', '4', '5', '6', '7', '8', '9');
        due("frame", 14, x.frame(1, 0));
        holds(x, 1, 9, 0x26, 0x39, 0xF4, 0xCB, '1', '2', '3', '4', '5', '6', '7', '8', '9');
        due("frame of none", 5, x.frame(2, 3));
        holds(x, 2, 0, 0, 0, 0, 0);
        int sum = x.sum(2, 0, 5);
        due("frame of itself", 10, x.frame(2, 2));
        holds(x, 2, 0, 0, 0, 0, 0, 5, sum & 255, sum >> 8 & 255, sum >> 16 & 255, sum >> 24 & 255, 0, 0, 0, 0, 0);
        PacketDesk y = filled(1000, 128);
        due("frame of 128", 134, y.frame(1, 0));
        PacketDesk full = filled(16, 12);
        refused(full, "frame of 12", TOO_LONG, d -> d.frame(1, 0));
        full.cut(0, 11);
        refused(full, "frame of itself", TOO_LONG, d -> d.frame(0, 0));
        due("frame of 11", 16, full.frame(1, 0));
        refused(full, "frame of none to a full row", TOO_LONG, d -> d.frame(1, 2));
        noRows(full, "frame", k -> d -> d.frame(k, 0));
        noRows(full, "frame from", k -> d -> d.frame(0, k));
    }

    private static void cut() {
        promise = "promise 9";
        PacketDesk x = desk(1, 2, 3, 4, 5);
        x.place(0, 3);
        due("cut to all", 5, x.cut(0, 5));
        due("cut to 4", 5, x.cut(0, 4));
        due("place", 3, x.row(0, 1));
        due("cut to 2", 4, x.cut(0, 2));
        due("place", 2, x.row(0, 1));
        holds(x, 0, 1, 2);
        refused(x, "cut to 3", WRONG, d -> d.cut(0, 3));
        refused(x, "cut to -1", WRONG, d -> d.cut(0, -1));
        refused(x, "cut to the least", WRONG, d -> d.cut(0, Integer.MIN_VALUE));
        refused(x, "cut to the most", WRONG, d -> d.cut(0, Integer.MAX_VALUE));
        put(x, 0, 9);
        holds(x, 0, 1, 2, 9);
        due("cut to 0", 3, x.cut(0, 0));
        due("place", 0, x.row(0, 1));
        due("cut of none", 0, x.cut(0, 0));
        noRows(x, "cut", k -> d -> d.cut(k, -1));
    }

    private static void turn() {
        promise = "promise 10";
        PacketDesk x = desk(0, 255);
        due("turn 0", 1, x.turn(0, 0));
        due("turn 7", 129, x.turn(0, 7));
        due("turn 0", 128, x.turn(0, 0));
        due("turn 8", 254, x.turn(0, 8));
        due("turn 15", 126, x.turn(0, 15));
        holds(x, 0, 128, 126);
        due("place", 0, x.row(0, 1));
        for (int b : new int[] {-1, -8, 16, Integer.MIN_VALUE, Integer.MAX_VALUE}) {
            refused(x, "turn " + b, WRONG, d -> d.turn(0, b));
        }
        x.cut(0, 1);
        refused(x, "turn behind the end", WRONG, d -> d.turn(0, 8));
        refused(x, "turn in an empty row", WRONG, d -> d.turn(1, 0));
        noRows(x, "turn", k -> d -> d.turn(k, -1));
    }

    private static void place() {
        promise = "promise 11";
        PacketDesk x = desk(1, 2, 3);
        due("place 3", 0, x.place(0, 3));
        due("place 1", 3, x.place(0, 1));
        due("place 0", 1, x.place(0, 0));
        due("place 0", 0, x.place(0, 0));
        due("place of an empty row", 0, x.place(1, 0));
        for (int at : new int[] {-1, 4, Integer.MIN_VALUE, Integer.MAX_VALUE}) {
            refused(x, "place " + at, WRONG, d -> d.place(0, at));
        }
        noRows(x, "place", k -> d -> d.place(k, -1));
    }

    private static void readFixed() {
        promise = "promise 12";
        PacketDesk x = desk(0x88, 0x77, 0x66, 0xFF, 1, 2, 3, 4, 5, 6, 7, 0x88);
        due("3 bytes", 0x667788L, x.readFixed(0, 3));
        due("1 byte", 255, x.readFixed(0, 1));
        due("place", 4, x.row(0, 1));
        due("8 bytes", 0x8807060504030201L, x.readFixed(0, 8));
        refused(x, "1 byte at the end", ENDS, d -> d.readFixed(0, 1));
        x.place(0, 5);
        refused(x, "8 bytes of 7", ENDS, d -> d.readFixed(0, 8));
        due("7 bytes", 0x88070605040302L, x.readFixed(0, 7));
        x.place(0, 0);
        due("4 bytes", 0xFF667788L, x.readFixed(0, 4));
        for (int n : new int[] {0, 9, -1, Integer.MIN_VALUE, Integer.MAX_VALUE}) {
            refused(x, "a width of " + n, WRONG, d -> d.readFixed(0, n));
            refused(x, "a width of " + n + " in an empty row", WRONG, d -> d.readFixed(1, n));
        }
        noRows(x, "readFixed", k -> d -> d.readFixed(k, 0));
    }

    private static void readSevens() {
        promise = "promise 13";
        PacketDesk x = desk(0, 127, 128, 1, 172, 2, 255, 127);
        long[] numbers = {0, 127, 128, 300, 16383};
        for (long v : numbers) {
            due("readSevens", v, x.readSevens(0));
        }
        due("place", 8, x.row(0, 1));
        refused(x, "at the end", ENDS, d -> d.readSevens(0));
        long[] more = {1L << 62, (1L << 63) - 1, Long.MIN_VALUE, -1, 1L << 56, 65536};
        for (long v : more) {
            PacketDesk y = new PacketDesk(16);
            int many = y.sevens(0, v);
            due("readSevens", v, y.readSevens(0));
            due("place", many, y.row(0, 1));
        }
        due("tenth 1", Long.MIN_VALUE, longSevens(9, 1).readSevens(0));
        Call read = d -> d.readSevens(0);
        refused(longSevens(9, 2), "tenth 2", WRONG, read);
        refused(longSevens(9, 127), "tenth 127", WRONG, read);
        refused(longSevens(9, 0), "tenth 0", WRONG, read);
        refused(longSevens(10), "ten from 128 on and the end", WRONG, read);
        refused(longSevens(10, 1), "eleven", WRONG, read);
        refused(longSevens(9), "nine from 128 on and the end", ENDS, read);
        refused(longSevens(1), "one from 128 on and the end", ENDS, read);
        refused(longSevens(1, 0), "last of two 0", WRONG, read);
        refused(longSevens(8, 0), "last of nine 0", WRONG, read);
        refused(longSevens(0), "an empty row", ENDS, read);
        noRows(x, "readSevens", k -> d -> d.readSevens(k));
    }

    private static void readSigned() {
        promise = "promise 14";
        PacketDesk x = desk(0, 1, 2, 3, 126, 127, 128, 1, 129, 1);
        long[] numbers = {0, -1, 1, -2, 63, -64, 64, -65};
        for (long v : numbers) {
            due("readSigned", v, x.readSigned(0));
        }
        due("place", 10, x.row(0, 1));
        refused(x, "at the end", ENDS, d -> d.readSigned(0));
        for (long v : new long[] {Long.MIN_VALUE, Long.MAX_VALUE, 1L << 62, -(1L << 62) - 1}) {
            PacketDesk y = new PacketDesk(16);
            y.signed(0, v);
            due("readSigned", v, y.readSigned(0));
        }
        Call read = d -> d.readSigned(0);
        refused(longSevens(9, 2), "tenth 2", WRONG, read);
        refused(longSevens(10), "ten from 128 on", WRONG, read);
        refused(longSevens(9), "nine from 128 on", ENDS, read);
        refused(longSevens(2, 0), "last of three 0", WRONG, read);
        noRows(x, "readSigned", k -> d -> d.readSigned(k));
    }

    private static void readLetter() {
        promise = "promise 15";
        int[] edges = {0, 127, 128, 2047, 2048, 4095, 4096, 55295, 57344, 65535, 65536, 262143, 262144, 1114111};
        PacketDesk x = new PacketDesk(100);
        for (int c : edges) {
            x.letter(0, c);
        }
        int behind = 0;
        for (int c : edges) {
            behind += new PacketDesk(16).letter(0, c);
            due("readLetter", c, x.readLetter(0));
            due("place", behind, x.row(0, 1));
        }
        refused(x, "at the end", ENDS, d -> d.readLetter(0));
        int[][] wrongBytes = {{128}, {191}, {192}, {193}, {192, 128}, {193, 191}, {245}, {245, 128, 128, 128},
            {255}, {248, 136, 128, 128, 128}, {194, 65}, {194, 192}, {223, 127}, {224, 128}, {224, 159},
            {224, 159, 191}, {225, 65}, {225, 128, 65}, {225, 128, 192}, {237, 160}, {237, 160, 128},
            {237, 191, 191}, {240, 128}, {240, 143}, {240, 143, 191, 191}, {241, 128, 65}, {241, 128, 128, 65},
            {241, 128, 128, 255}, {244, 144}, {244, 144, 128, 128}, {244, 191}};
        for (int[] bytes : wrongBytes) {
            refused(desk(bytes), "letter of " + java.util.Arrays.toString(bytes), WRONG, d -> d.readLetter(0));
        }
        noRows(x, "readLetter", k -> d -> d.readLetter(k));
    }

    private static void readLetterThatEnds() {
        promise = "promise 15";
        int[][] beginnings = {{}, {194}, {223}, {224}, {224, 160}, {225}, {225, 128}, {237}, {237, 159}, {238, 128},
            {239, 191}, {240}, {240, 144}, {240, 144, 128}, {243, 191, 191}, {244}, {244, 143}, {244, 143, 191}};
        for (int[] bytes : beginnings) {
            refused(desk(bytes), "letter of " + java.util.Arrays.toString(bytes), ENDS, d -> d.readLetter(0));
        }
    }

    private static void readBlock() {
        promise = "promise 16";
        PacketDesk x = desk(7, 3, 10, 20, 200, 0, 1);
        x.fixed(1, -1, 8);
        x.place(1, 5);
        x.place(0, 1);
        due("readBlock", 3, x.readBlock(0, 1));
        holds(x, 1, 10, 20, 200);
        due("place read", 5, x.row(0, 1));
        due("place written", 0, x.row(1, 1));
        refused(x, "into itself", WRONG, d -> d.readBlock(0, 0));
        due("readBlock of none", 0, x.readBlock(0, 1));
        due("size", 0, x.row(1, 0));
        x.fixed(1, -1, 8);
        refused(x, "one byte of none", ENDS, d -> d.readBlock(0, 1));
        x.place(0, 7);
        refused(x, "at the end", ENDS, d -> d.readBlock(0, 1));
        refused(x, "into itself at the end", WRONG, d -> d.readBlock(0, 0));
        noRows(x, "readBlock", k -> d -> d.readBlock(k, 1));
        noRows(x, "readBlock to", k -> d -> d.readBlock(0, k));
        noRows(x, "readBlock within", k -> d -> d.readBlock(k, k));
        Call read = d -> d.readBlock(0, 1);
        long[] tooMany = {65537, 1L << 32, (1L << 32) + 1, Long.MAX_VALUE, Long.MIN_VALUE, -1};
        for (long many : tooMany) {
            PacketDesk y = new PacketDesk(100);
            y.sevens(0, many);
            y.fixed(0, 0, 8);
            refused(y, "block of " + many, WRONG, read);
        }
        PacketDesk most = new PacketDesk(100);
        most.sevens(0, 65536);
        refused(most, "block of 65536", ENDS, read);
        refused(longSevens(3), "a number without an end", ENDS, read);
        refused(longSevens(1, 0, 5), "a wrong number", WRONG, read);
        refused(longSevens(10, 5), "a number too long", WRONG, read);
        PacketDesk large = filled(65536, 65533);
        due("block of 65533", 65536, large.block(1, 0));
        due("readBlock", 65533, large.readBlock(1, 2));
        due("same", 1, large.same(0, 2) ? 1 : 0);
    }

    private static void readFrame() {
        promise = "promise 17";
        PacketDesk x = desk('1', '2', '3', '4', '5', '6', '7', '8', '9');
        x.frame(1, 0);
        x.frame(1, 3);
        x.fixed(2, -1, 8);
        x.place(2, 5);
        due("readFrame", 9, x.readFrame(1, 2));
        holds(x, 2, '1', '2', '3', '4', '5', '6', '7', '8', '9');
        due("place written", 0, x.row(2, 1));
        due("place read", 14, x.row(1, 1));
        refused(x, "into itself", WRONG, d -> d.readFrame(1, 1));
        due("readFrame of none", 0, x.readFrame(1, 2));
        due("size", 0, x.row(2, 0));
        refused(x, "at the end", ENDS, d -> d.readFrame(1, 2));
        refused(x, "into itself at the end", WRONG, d -> d.readFrame(1, 1));
        noRows(x, "readFrame", k -> d -> d.readFrame(k, 2));
        noRows(x, "readFrame to", k -> d -> d.readFrame(1, k));
        brokenFrames();
        Call read = d -> d.readFrame(0, 1);
        for (long many : new long[] {65537, 1L << 32, -1}) {
            PacketDesk y = new PacketDesk(100);
            y.sevens(0, many);
            refused(y, "frame of " + many, WRONG, read);
        }
        refused(desk(0, 0, 0, 0), "three bytes of the sum", ENDS, read);
        refused(desk(0, 1, 0, 0, 0), "another sum of none", OTHER_SUM, read);
        refused(desk(128, 128, 4), "65536 bytes", ENDS, read);
        refused(longSevens(2, 0, 5), "a wrong number", WRONG, read);
        PacketDesk large = filled(65536, 65529);
        due("frame of 65529", 65536, large.frame(1, 0));
        due("readFrame", 65529, large.readFrame(1, 2));
        due("same", 1, large.same(0, 2) ? 1 : 0);
    }

    private static void brokenFrames() {
        for (int bit = 8; bit < 7 * 8; bit++) {
            PacketDesk y = desk(5, 250);
            y.fixed(2, 77, 3);
            y.frame(1, 0);
            y.turn(1, bit);
            refused(y, "bit " + bit + " turned", OTHER_SUM, d -> d.readFrame(1, 2));
            y.turn(1, bit);
            due("readFrame", 2, y.readFrame(1, 2));
        }
        PacketDesk cutOff = desk(5, 250);
        cutOff.frame(1, 0);
        cutOff.turn(1, 8);
        for (int size = 6; size >= 0; size--) {
            cutOff.cut(1, size);
            refused(cutOff, "cut to " + size, ENDS, d -> d.readFrame(1, 2));
        }
    }

    private static void letters() {
        promise = "promise 18";
        PacketDesk x = desk(65, 195, 164, 226, 130, 172, 240, 157, 148, 184, 66);
        due("all", 5, x.letters(0, 0, 11));
        due("one of two bytes", 1, x.letters(0, 1, 2));
        due("one of four bytes", 1, x.letters(0, 6, 4));
        due("none", 0, x.letters(0, 4, 0));
        due("none at the end", 0, x.letters(0, 11, 0));
        due("none of an empty row", 0, x.letters(1, 0, 0));
        due("place", 0, x.row(0, 1));
        int[][] wrongRanges = {{0, 2}, {2, 1}, {3, 2}, {6, 3}, {7, 3}, {-1, 1}, {0, -1}, {0, 12}, {11, 1}, {12, 0},
            {1, Integer.MAX_VALUE}, {Integer.MAX_VALUE, 1}, {Integer.MIN_VALUE, 0}};
        for (int[] range : wrongRanges) {
            refused(x, "letters at " + range[0] + " of " + range[1], WRONG, d -> d.letters(0, range[0], range[1]));
        }
        refused(desk(65, 237, 160, 128), "no letter", WRONG, d -> d.letters(0, 0, 4));
        refused(desk(65, 192, 128), "too long a form", WRONG, d -> d.letters(0, 0, 3));
        due("three of one byte", 3, desk(0, 1, 2).letters(0, 0, 3));
        noRows(x, "letters", k -> d -> d.letters(k, -1, 1));
    }

    private static void sum() {
        promise = "promise 19";
        PacketDesk x = desk('x', '1', '2', '3', '4', '5', '6', '7', '8', '9', 255);
        due("sum", 0xCBF43926, x.sum(0, 1, 9));
        due("sum of none", 0, x.sum(0, 3, 0));
        due("sum of none at the end", 0, x.sum(0, 11, 0));
        due("sum of 255", 0xFF000000, x.sum(0, 10, 1));
        due("place", 0, x.row(0, 1));
        int[][] wrongRanges = {{-1, 1}, {-1, 0}, {0, -1}, {0, 12}, {11, 1}, {12, 0}, {1, Integer.MAX_VALUE},
            {Integer.MAX_VALUE, 1}, {Integer.MIN_VALUE, Integer.MIN_VALUE}};
        for (int[] range : wrongRanges) {
            refused(x, "sum at " + range[0] + " of " + range[1], WRONG, d -> d.sum(0, range[0], range[1]));
        }
        noRows(x, "sum", k -> d -> d.sum(k, -1, 1));
    }

    private static void same() {
        promise = "promise 20";
        PacketDesk x = desk(1, 2, 200);
        put(x, 1, 1, 2, 200);
        x.place(1, 2);
        due("same", 1, x.same(0, 1) ? 1 : 0);
        due("same as itself", 1, x.same(0, 0) ? 1 : 0);
        due("same when empty", 1, x.same(2, 3) ? 1 : 0);
        due("one more", 0, x.same(0, 2) ? 1 : 0);
        for (int bit : new int[] {0, 12, 23}) {
            x.turn(1, bit);
            due("another byte", 0, x.same(0, 1) ? 1 : 0);
            x.turn(1, bit);
        }
        x.cut(1, 2);
        due("one less", 0, x.same(0, 1) ? 1 : 0);
        due("one less", 0, x.same(1, 0) ? 1 : 0);
        x.cut(0, 2);
        x.cut(0, 1);
        x.cut(1, 1);
        put(x, 0, 7);
        x.cut(0, 1);
        due("same before what was cut off", 1, x.same(1, 0) ? 1 : 0);
        PacketDesk full = filled(16, 16);
        full.copy(3, 0, 0, 16);
        due("same when full", 1, full.same(0, 3) ? 1 : 0);
        noRows(x, "same", k -> d -> d.same(k, 0) ? 1 : 0);
        noRows(x, "same other", k -> d -> d.same(0, k) ? 1 : 0);
    }

    private static void row() {
        promise = "promise 21";
        PacketDesk x = desk(1, 2, 3, 4, 5);
        x.place(0, 2);
        due("size", 5, x.row(0, 0));
        due("place", 2, x.row(0, 1));
        due("left", 3, x.row(0, 2));
        for (int what : new int[] {-1, 3, Integer.MIN_VALUE, Integer.MAX_VALUE}) {
            refused(x, "row " + what, WRONG, d -> d.row(0, what));
        }
        noRows(x, "row", k -> d -> d.row(k, 3));
    }

    private static void byteAt() {
        promise = "promise 22";
        PacketDesk x = desk(0, 127, 128, 255);
        holds(x, 0, 0, 127, 128, 255);
        due("place", 0, x.row(0, 1));
        for (int i : new int[] {-1, 4, Integer.MIN_VALUE, Integer.MAX_VALUE}) {
            refused(x, "byteAt " + i, WRONG, d -> d.byteAt(0, i));
        }
        x.cut(0, 3);
        refused(x, "byteAt behind a cut", WRONG, d -> d.byteAt(0, 3));
        refused(x, "byteAt of an empty row", WRONG, d -> d.byteAt(1, 0));
        noRows(x, "byteAt", k -> d -> d.byteAt(k, -1));
    }
}
