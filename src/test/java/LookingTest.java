import java.util.Arrays;

/** The sentences of promises 18 to 22: letters, sum, same, row and byteAt, which change nothing. */
public final class LookingTest {
    private static final int[] ROW = {1, 2, 3, 4, 5, 6, 7, 8, 9, 10, 11, 12, 13, 14, 15, 200};
    // Ranges that no row of 0 .. 16 bytes has: wrong on one side, or too long once they are added.
    private static final int[][] NO_RANGES = {{-1, 0}, {-1, 1}, {-1, 2}, {0, -1}, {1, -1}, {-1, -1}, {0, 17}, {17, 0}, {16, 1},
        {0, Integer.MAX_VALUE}, {1, Integer.MAX_VALUE}, {16, Integer.MAX_VALUE}, {Integer.MAX_VALUE, 0}, {Integer.MAX_VALUE, 1},
        {Integer.MAX_VALUE, Integer.MAX_VALUE}, {Integer.MIN_VALUE, 0}, {Integer.MIN_VALUE, Integer.MAX_VALUE},
        {0, Integer.MIN_VALUE}, {16, Integer.MIN_VALUE}, {Integer.MAX_VALUE, Integer.MIN_VALUE},
        {Integer.MIN_VALUE, Integer.MIN_VALUE}, {1 << 30, 1 << 30}};
    private static final int[] FAR = {Integer.MIN_VALUE, -65536, -17, -2, -1, 17, 65536, Integer.MAX_VALUE};

    public static void main(String[] args) {
        letters();
        lettersRange();
        notWholeLetters();
        sum();
        sumRange();
        same();
        samePlaces();
        sameRefused();
        row();
        rowRefused();
        byteAt();
        byteAtRefused();
        Edges.end();
    }

    private static Edges.Start of(int size, int place) {
        return Edges.Start.of(16).with(1, place, Edges.part(ROW, 0, size)).with(2, 1, 5, 6);
    }

    // ---- promise 18

    private static void letters() {
        Edges.sentence("Promise 18", "How many letters the n bytes from byte at on are, one behind the other.");
        // Letters of 1, 2, 3, 4 and 1 bytes: they begin at 0, 1, 3, 6 and 10.
        int[] row = {65, 195, 164, 226, 130, 172, 240, 157, 148, 184, 66};
        int[] borders = {0, 1, 3, 6, 10, 11};
        Edges.Start start = Edges.Start.of(16).with(0, 4, row).with(1, 1, 5, 6);
        for (int at = 0; at <= 11; at++) {
            for (int end = at; end <= 11; end++) {
                int from = at;
                int n = end - at;
                int first = Arrays.binarySearch(borders, at);
                int last = Arrays.binarySearch(borders, end);
                boolean whole = n == 0 || first >= 0 && last >= 0;
                Object due = n == 0 ? Integer.valueOf(0) : whole ? Integer.valueOf(last - first) : Edges.WRONG;
                Edges.looked(start, "letters(0, " + at + ", " + n + ")", due, x -> x.letters(0, from, n));
            }
        }
        Edges.looked(start, "none of an empty row", 0, x -> x.letters(3, 0, 0));
        Edges.Start zeros = Edges.Start.of(65536).with(2, 5, Edges.times(65536, 0));
        Edges.looked(zeros, "a full row of letters", 65536, x -> x.letters(2, 0, 65536));
        Edges.looked(zeros, "the last of a full row", 1, x -> x.letters(2, 65535, 1));
        int[] three = new int[65535];
        for (int i = 0; i < three.length; i++) {
            three[i] = new int[] {226, 130, 172}[i % 3];
        }
        Edges.Start wide = Edges.Start.of(65536).with(2, 5, three);
        Edges.looked(wide, "letters of three bytes", 21845, x -> x.letters(2, 0, 65535));
        Edges.refused(wide, "the last of them cut off", Edges.WRONG, x -> x.letters(2, 0, 65534));
    }

    private static void lettersRange() {
        Edges.sentence("Promise 18", "IllegalArgumentException, when at or n is below 0, there are not so many,");
        for (int size = 0; size <= 15; size++) {
            Edges.Start start = of(size, size / 2);
            for (int at = -1; at <= size + 1; at++) {
                for (int n = -1; n <= size + 1; n++) {
                    int from = at;
                    int many = n;
                    boolean there = at >= 0 && n >= 0 && at + n <= size;
                    Edges.looked(start, "letters(1, " + at + ", " + n + ")", there ? Integer.valueOf(n) : Edges.WRONG,
                        x -> x.letters(1, from, many));
                }
            }
        }
        for (int[] range : NO_RANGES) {
            Edges.refused(Edges.Start.of(16).with(0, 0, Edges.times(16, 65)), "letters at " + range[0] + " of " + range[1],
                Edges.WRONG, x -> x.letters(0, range[0], range[1]));
            Edges.refused(of(3, 1), "letters at " + range[0] + " of " + range[1], Edges.WRONG,
                x -> x.letters(1, range[0], range[1]));
        }
        for (int k : Edges.NO_ROWS) {
            Edges.refused(of(3, 1), "letters of no row", Edges.NO_ROW, x -> x.letters(k, 0, 0));
            Edges.refused(of(3, 1), "no letters of no row", Edges.NO_ROW, x -> x.letters(k, -1, -1));
        }
    }

    private static void notWholeLetters() {
        Edges.sentence("Promise 18", "or they are not whole letters.");
        int[][] wrong = {{128}, {191}, {192, 128}, {193, 191}, {194}, {194, 65}, {194, 192}, {223}, {224}, {224, 128, 128},
            {224, 159, 191}, {224, 160}, {237, 159}, {237, 160, 128}, {237, 191, 191}, {239, 191}, {240}, {240, 143, 191, 191},
            {240, 144}, {240, 144, 128}, {244, 143, 191}, {244, 144, 128, 128}, {245, 128, 128, 128}, {248, 136, 128, 128, 128},
            {254}, {255}};
        int[] none = {};
        int[] some = {65, 195, 164};
        for (int[] row : wrong) {
            for (int[] before : new int[][] {none, some}) {
                // A byte behind the range that would make a cut-off letter whole does not count.
                Edges.Start start = Edges.Start.of(16).with(0, 1, Edges.joined(before, row, Edges.bytes(128)));
                int n = before.length + row.length;
                Edges.refused(start, "letters(0, 0, " + n + ")", Edges.WRONG, x -> x.letters(0, 0, n));
                Edges.Start behind = Edges.Start.of(16).with(0, 1, Edges.joined(before, row, some));
                Edges.refused(behind, "letters with more behind", Edges.WRONG, x -> x.letters(0, 0, n + 3));
            }
        }
    }

    // ---- promise 19

    private static void sum() {
        Edges.sentence("Promise 19", "The sum of the n bytes from byte at on.");
        for (int at = 0; at <= 16; at++) {
            for (int n = 0; at + n <= 16; n++) {
                int from = at;
                int many = n;
                Edges.looked(of(16, 5), "sum(1, " + at + ", " + n + ")", Edges.sumOf(Edges.part(ROW, at, n)),
                    x -> x.sum(1, from, many));
            }
        }
        int[] row = Edges.pattern(65536);
        Edges.Start large = Edges.Start.of(65536).with(0, 0, row);
        Edges.looked(large, "sum of a full row", Edges.sumOf(row), x -> x.sum(0, 0, 65536));
        Edges.looked(large, "sum of its last byte", Edges.sumOf(1), x -> x.sum(0, 65535, 1));
        Edges.looked(large, "sum of none at its end", 0, x -> x.sum(0, 65536, 0));
        Edges.refused(large, "sum of one more", Edges.WRONG, x -> x.sum(0, 0, 65537));
    }

    private static void sumRange() {
        Edges.sentence("Promise 19", "IllegalArgumentException, when at or n is below 0, or there are not so many.");
        for (int size = 0; size <= 16; size++) {
            Edges.Start start = of(size, size / 2);
            for (int at = -1; at <= size + 1; at++) {
                for (int n = -1; n <= size + 1; n++) {
                    int from = at;
                    int many = n;
                    boolean there = at >= 0 && n >= 0 && at + n <= size;
                    Edges.looked(start, "sum(1, " + at + ", " + n + ")",
                        there ? Integer.valueOf(Edges.sumOf(Edges.part(ROW, at, n))) : Edges.WRONG, x -> x.sum(1, from, many));
                }
            }
        }
        for (int[] range : NO_RANGES) {
            for (int size : new int[] {0, 3, 16}) {
                Edges.refused(of(size, 0), "sum at " + range[0] + " of " + range[1], Edges.WRONG,
                    x -> x.sum(1, range[0], range[1]));
            }
        }
        for (int k : Edges.NO_ROWS) {
            Edges.refused(of(3, 1), "sum of no row", Edges.NO_ROW, x -> x.sum(k, 0, 0));
            Edges.refused(of(3, 1), "no sum of no row", Edges.NO_ROW, x -> x.sum(k, -1, -1));
        }
    }

    // ---- promise 20

    private static void bothWays(Edges.Start start, String name, boolean due) {
        Edges.looked(start, name, due, x -> x.same(1, 2));
        Edges.looked(start, name + " the other way", due, x -> x.same(2, 1));
    }

    private static void same() {
        Edges.sentence("Promise 20", "Whether two rows have the same bytes.");
        for (int size = 0; size <= 16; size++) {
            int[] row = Edges.part(ROW, 0, size);
            Edges.Start start = Edges.Start.of(16).with(1, 0, row).with(2, 0, row);
            bothWays(start, "the same", true);
            Edges.looked(start, "a row and itself", true, x -> x.same(1, 1));
            for (int i = 0; i < size; i++) {
                int[] other = row.clone();
                other[i] ^= i % 2 == 0 ? 1 : 128;
                bothWays(start.with(2, 0, other), "byte " + i + " another", false);
                bothWays(start.with(2, 0, Edges.part(row, 0, i)), "the first " + i + " alone", false);
            }
        }
        bothWays(Edges.Start.of(16), "two empty rows", true);
        bothWays(Edges.Start.of(16).with(1, 0, 0), "an empty row and a byte 0", false);
        int[] most = Edges.pattern(65536);
        Edges.Start large = Edges.Start.of(65536).with(1, 0, most).with(2, 0, most);
        bothWays(large, "two full rows", true);
        bothWays(large.with(2, 0, Edges.pattern(65535)), "all but the last", false);
        Edges.due("the last byte another", false, Edges.answer(large.desk(), x -> {
            x.turn(2, 524287);
            return x.same(1, 2);
        }));
        Edges.due("what was cut off another", true, Edges.answer(of(3, 0).desk(), x -> {
            x.cut(1, 0);
            x.cut(2, 0);
            return x.same(1, 2);
        }));
    }

    private static void samePlaces() {
        Edges.sentence("Promise 20", "(Their places do not matter.)");
        for (int place = 0; place <= 3; place++) {
            for (int other = 0; other <= 3; other++) {
                bothWays(Edges.Start.of(16).with(1, place, 7, 8, 9).with(2, other, 7, 8, 9), "places", true);
                bothWays(Edges.Start.of(16).with(1, place, 7, 8, 9).with(2, other, 6, 8, 9), "places", false);
            }
        }
        bothWays(Edges.Start.of(16).with(1, 1, 0, 7, 8).with(2, 0, 7, 8), "the same from the place on", false);
    }

    private static void sameRefused() {
        Edges.sentence("Promise 20", "`boolean same(int k, int other) throws IndexOutOfBoundsException`");
        for (int k : Edges.NO_ROWS) {
            Edges.refused(of(3, 1), "same of no row", Edges.NO_ROW, x -> x.same(k, 1));
            Edges.refused(of(3, 1), "same as no row", Edges.NO_ROW, x -> x.same(1, k));
            Edges.refused(of(3, 1), "no row and itself", Edges.NO_ROW, x -> x.same(k, k));
        }
    }

    // ---- promises 21 and 22

    private static void row() {
        Edges.sentence("Promise 21", "How many bytes a row has (what 0), its place (1), how many from the place on (2);");
        for (int size = 0; size <= 16; size++) {
            for (int place = 0; place <= size; place++) {
                Edges.Start start = of(size, place);
                Edges.looked(start, "row(1, 0)", size, x -> x.row(1, 0));
                Edges.looked(start, "row(1, 1)", place, x -> x.row(1, 1));
                Edges.looked(start, "row(1, 2)", size - place, x -> x.row(1, 2));
            }
        }
        Edges.Start large = Edges.Start.of(65536).with(3, 65535, Edges.pattern(65536));
        Edges.looked(large, "how many", 65536, x -> x.row(3, 0));
        Edges.looked(large, "the place", 65535, x -> x.row(3, 1));
        Edges.looked(large, "how many from the place on", 1, x -> x.row(3, 2));
    }

    private static void rowRefused() {
        Edges.sentence("Promise 21", "IllegalArgumentException, for another what.");
        for (int what : new int[] {-1, -2, 3, 4, Integer.MIN_VALUE, Integer.MAX_VALUE}) {
            Edges.refused(of(3, 1), "row(1, " + what + ")", Edges.WRONG, x -> x.row(1, what));
            Edges.refused(of(0, 0), "row(1, " + what + ")", Edges.WRONG, x -> x.row(1, what));
        }
        for (int k : Edges.NO_ROWS) {
            Edges.refused(of(3, 1), "row of no row", Edges.NO_ROW, x -> x.row(k, 0));
            Edges.refused(of(3, 1), "another what of no row", Edges.NO_ROW, x -> x.row(k, 3));
        }
    }

    private static void byteAt() {
        Edges.sentence("Promise 22", "Byte i of a row.");
        for (int size = 1; size <= 16; size++) {
            for (int i = 0; i < size; i++) {
                int at = i;
                Edges.looked(of(size, size / 2), "byteAt(1, " + i + ")", ROW[i], x -> x.byteAt(1, at));
            }
        }
        for (int b : new int[] {0, 1, 127, 128, 254, 255}) {
            Edges.looked(Edges.Start.of(16).with(0, 1, 9, b), "byte " + b, b, x -> x.byteAt(0, 1));
        }
        Edges.Start large = Edges.Start.of(65536).with(3, 0, Edges.pattern(65536));
        Edges.looked(large, "the last byte", 1, x -> x.byteAt(3, 65535));
        Edges.refused(large, "one behind it", Edges.WRONG, x -> x.byteAt(3, 65536));
    }

    private static void byteAtRefused() {
        Edges.sentence("Promise 22", "IllegalArgumentException, when there is none.");
        for (int size = 0; size <= 16; size++) {
            int behind = size;
            Edges.refused(of(size, size / 2), "byteAt one behind the end", Edges.WRONG, x -> x.byteAt(1, behind));
            for (int i : FAR) {
                Edges.refused(of(size, size / 2), "byteAt(1, " + i + ")", Edges.WRONG, x -> x.byteAt(1, i));
            }
        }
        for (int k : Edges.NO_ROWS) {
            Edges.refused(of(3, 1), "byteAt of no row", Edges.NO_ROW, x -> x.byteAt(k, 0));
            Edges.refused(of(3, 1), "no byte of no row", Edges.NO_ROW, x -> x.byteAt(k, -1));
        }
    }
}
