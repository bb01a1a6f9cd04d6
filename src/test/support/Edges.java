import java.util.Arrays;
import java.util.NoSuchElementException;
import java.util.zip.CRC32;

/**
 * What the tests of the document's sentences share: how a desk stands before a call and behind it,
 * and the setting of a call's answer, and of all four rows behind it, against what is due.
 */
final class Edges {
    static final Class<?> NO_ROW = IndexOutOfBoundsException.class;
    static final Class<?> WRONG = IllegalArgumentException.class;
    static final Class<?> TOO_LONG = IllegalStateException.class;
    static final Class<?> ENDS = NoSuchElementException.class;
    static final Class<?> OTHER_SUM = UnsupportedOperationException.class;

    static final int[] NO_ROWS = {-1, 4, -4, 8, Integer.MIN_VALUE, Integer.MAX_VALUE};

    private static final int SHOWN_FAULTS = 30;
    // Longer rows are looked at by their sum: a desk answers 512 calls alone.
    private static final int LOOKED_AT_BY_BYTES = 40;

    private static String current = null;
    private static int checks = 0;
    private static int sentences = 0;
    private static int wrong = 0;

    private Edges() {
    }

    interface Call {
        Object on(PacketDesk x);
    }

    // ---- sentences

    /** The checks from here on are those of this sentence of the document's section; it must have one. */
    static void sentence(String section, String text) {
        closeSentence();
        current = section + ": " + text;
        checks = 0;
        sentences++;
    }

    private static void closeSentence() {
        if (current != null && checks == 0) {
            fault("no test of this sentence");
        }
    }

    static void end() {
        closeSentence();
        System.out.println(wrong == 0 ? sentences + " sentences hold" : wrong + " answers are not as due");
        if (wrong != 0) {
            System.exit(1);
        }
    }

    private static void fault(String text) {
        wrong++;
        if (wrong <= SHOWN_FAULTS) {
            System.out.println("[" + current + "] " + text);
        }
    }

    // ---- checks

    /** The call throws just this class, and all rows and places stay. */
    static void refused(Start before, String name, Class<?> due, Call call) {
        taken(before, name, due, before, call);
    }

    /** The call answers so, and all rows and places stay. */
    static void looked(Start before, String name, Object due, Call call) {
        taken(before, name, due, before, call);
    }

    /** The call answers so (a class: throws just that), and the desk stands so behind it. */
    static void taken(Start before, String name, Object due, Start after, Call call) {
        checks++;
        try {
            PacketDesk x = before.desk();
            Object got = answer(x, call);
            if (!alike(due, got)) {
                fault(name + " on " + before + " gave " + got + ", due is " + due);
            }
            String other = after.otherIn(x);
            if (!other.isEmpty()) {
                fault(name + " on " + before + " left " + other + ", due is " + after);
            }
        } catch (RuntimeException e) {
            fault(name + " on " + before + " could not be tried: " + e);
        }
    }

    static void due(String name, Object due, Object got) {
        checks++;
        if (!alike(due, got)) {
            fault(name + " gave " + got + ", due is " + due);
        }
    }

    static Object answer(PacketDesk x, Call call) {
        try {
            return call.on(x);
        } catch (RuntimeException e) {
            return e.getClass();
        }
    }

    private static boolean alike(Object due, Object got) {
        if (due instanceof Number && got instanceof Number) {
            return ((Number) due).longValue() == ((Number) got).longValue();
        }
        return due.equals(got);
    }

    // ---- bytes

    static int[] joined(int[]... parts) {
        int[] all = {};
        for (int[] part : parts) {
            int at = all.length;
            all = Arrays.copyOf(all, at + part.length);
            System.arraycopy(part, 0, all, at, part.length);
        }
        return all;
    }

    static int[] bytes(int... row) {
        return row;
    }

    static int[] times(int n, int b) {
        int[] row = new int[n];
        Arrays.fill(row, b);
        return row;
    }

    /** So many bytes, not all alike, each the same as the third before it. */
    static int[] pattern(int n) {
        int[] row = new int[n];
        for (int i = 0; i < n; i++) {
            row[i] = new int[] {1, 200, 3}[i % 3];
        }
        return row;
    }

    static int[] part(int[] row, int at, int n) {
        return Arrays.copyOfRange(row, at, at + n);
    }

    static int sumOf(int... row) {
        CRC32 sum = new CRC32();
        for (int b : row) {
            sum.update(b);
        }
        return (int) sum.getValue();
    }

    /** The n lowest bytes of v, the lowest first. */
    static int[] lowest(long v, int n) {
        int[] row = new int[n];
        for (int i = 0; i < n; i++) {
            row[i] = (int) (v >> 8 * i) & 255;
        }
        return row;
    }

    static int[] sevensOf(int many) {
        return many < 128 ? bytes(many)
            : many < 16384 ? bytes(128 + many % 128, many / 128)
            : bytes(128 + many % 128, 128 + many / 128 % 128, many / 16384);
    }

    static int[] blockOf(int... row) {
        return joined(sevensOf(row.length), row);
    }

    static int[] frameOf(int... row) {
        return joined(sevensOf(row.length), lowest(sumOf(row), 4), row);
    }

    // ---- how a desk stands

    /** A desk's limit, rows and places; it is never changed itself. */
    static final class Start {
        private final int limit;
        private final int[][] rows;
        private final int[] places;

        private Start(int limit, int[][] rows, int[] places) {
            this.limit = limit;
            this.rows = rows;
            this.places = places;
        }

        static Start of(int limit) {
            return new Start(limit, new int[4][0], new int[4]);
        }

        Start with(int k, int place, int... row) {
            int[][] otherRows = rows.clone();
            int[] otherPlaces = places.clone();
            otherRows[k] = row;
            otherPlaces[k] = place;
            return new Start(limit, otherRows, otherPlaces);
        }

        Start placed(int k, int place) {
            return with(k, place, rows[k]);
        }

        int[] row(int k) {
            return rows[k];
        }

        int place(int k) {
            return places[k];
        }

        PacketDesk desk() {
            PacketDesk x = new PacketDesk(limit);
            for (int k = 0; k < 4; k++) {
                fill(x, k);
                x.place(k, places[k]);
            }
            return x;
        }

        // Eight bytes a call, and behind 64 by copies of what goes round in threes.
        private void fill(PacketDesk x, int k) {
            int[] row = rows[k];
            int single = Math.min(row.length, 64);
            for (int at = 0; at < single; at += 8) {
                int n = Math.min(8, single - at);
                long v = 0;
                for (int i = n - 1; i >= 0; i--) {
                    v = v << 8 | row[at + i];
                }
                x.fixed(k, v, n);
            }
            int size = single;
            while (size < row.length) {
                int n = Math.min(size - 61, row.length - size);
                x.copy(k, k, 61, n);
                size += n;
            }
        }

        /** What stands otherwise in this desk, or an empty text. */
        private String otherIn(PacketDesk x) {
            for (int k = 0; k < 4; k++) {
                int size = x.row(k, 0);
                if (size != rows[k].length || x.row(k, 1) != places[k]) {
                    return "row " + k + " with " + size + " bytes and place " + x.row(k, 1);
                }
                String other = otherBytes(x, k);
                if (!other.isEmpty()) {
                    return other;
                }
            }
            return "";
        }

        private String otherBytes(PacketDesk x, int k) {
            if (rows[k].length > LOOKED_AT_BY_BYTES) {
                return x.sum(k, 0, rows[k].length) == sumOf(rows[k]) ? "" : "row " + k + " with other bytes";
            }
            for (int i = 0; i < rows[k].length; i++) {
                if (x.byteAt(k, i) != rows[k][i]) {
                    return "row " + k + " with byte " + i + " " + x.byteAt(k, i);
                }
            }
            return "";
        }

        @Override
        public String toString() {
            StringBuilder text = new StringBuilder("desk(" + limit);
            for (int k = 0; k < 4; k++) {
                int[] row = rows[k];
                text.append("; ").append(row.length > 20 ? row.length + " bytes" : Arrays.toString(row))
                    .append(" place ").append(places[k]);
            }
            return text.append(")").toString();
        }
    }
}
