import java.util.NoSuchElementException;

/**
 * Four rows of bytes that are written at their end and read from a place on. Every call looks at
 * all that it needs before it changes anything, so a call that throws leaves the rows as they were.
 */
public final class PacketDesk {
    private static final int ROWS = 4;
    private static final int LEAST_LIMIT = 16;
    private static final int MOST_LIMIT = 65536;
    private static final int MOST_BLOCK = 65536;
    private static final int MOST_FIXED = 8;
    private static final int MOST_SEVENS = 10;
    private static final int SUM_WIDTH = 4;
    private static final int SUM_TURN = -306674912;
    private static final int FIRST_NO_LETTER = 55296;
    private static final int LAST_NO_LETTER = 57343;
    private static final int LAST_LETTER = 1114111;

    // Answers of letterAt that are no letter: below 0, where no letter is.
    private static final int WRONG = -1;
    private static final int ENDED = -2;

    private final Row[] rows;

    public PacketDesk(int limit) {
        int most = Math.max(LEAST_LIMIT, Math.min(MOST_LIMIT, limit));
        rows = new Row[ROWS];
        for (int k = 0; k < ROWS; k++) {
            rows[k] = new Row(most);
        }
    }

    // ---- writing

    public int fixed(int k, long v, int n)
            throws IndexOutOfBoundsException, IllegalArgumentException, IllegalStateException {
        Row row = rowOf(k);
        needFixedWidth(n);
        needRoom(row, n);
        addFixed(row, v, n);
        return row.size;
    }

    public int sevens(int k, long v) throws IndexOutOfBoundsException, IllegalStateException {
        return writeSevens(rowOf(k), v);
    }

    public int signed(int k, long v) throws IndexOutOfBoundsException, IllegalStateException {
        return writeSevens(rowOf(k), (v << 1) ^ (v >> 63));
    }

    public int letter(int k, int c)
            throws IndexOutOfBoundsException, IllegalArgumentException, IllegalStateException {
        Row row = rowOf(k);
        int width = letterWidth(c);
        if (width == 0) {
            throw new IllegalArgumentException("no such letter");
        }
        needRoom(row, width);
        addLetter(row, c, width);
        return width;
    }

    public int copy(int k, int from, int at, int n)
            throws IndexOutOfBoundsException, IllegalArgumentException, IllegalStateException {
        Row row = rowOf(k);
        Row source = rowOf(from);
        needRange(source, at, n);
        needRoom(row, n);
        addBytes(row, source, at, n);
        return row.size;
    }

    public int block(int k, int from) throws IndexOutOfBoundsException, IllegalStateException {
        Row row = rowOf(k);
        Row source = rowOf(from);
        // Kept, because the source grows below when it is the row that is written.
        int many = source.size;
        int whole = sevensWidth(many) + many;
        needRoom(row, whole);
        addSevens(row, many);
        addBytes(row, source, 0, many);
        return whole;
    }

    public int frame(int k, int from) throws IndexOutOfBoundsException, IllegalStateException {
        Row row = rowOf(k);
        Row source = rowOf(from);
        // Kept, because the source grows below when it is the row that is written.
        int many = source.size;
        int whole = sevensWidth(many) + SUM_WIDTH + many;
        needRoom(row, whole);
        addSevens(row, many);
        addFixed(row, sumOf(source, 0, many), SUM_WIDTH);
        addBytes(row, source, 0, many);
        return whole;
    }

    // ---- changing

    public int cut(int k, int size) throws IndexOutOfBoundsException, IllegalArgumentException {
        Row row = rowOf(k);
        if (size < 0 || size > row.size) {
            throw new IllegalArgumentException("the row has not so many bytes");
        }
        int had = row.size;
        row.size = size;
        row.place = Math.min(row.place, size);
        return had;
    }

    public int turn(int k, int b) throws IndexOutOfBoundsException, IllegalArgumentException {
        Row row = rowOf(k);
        if (b < 0 || b / 8 >= row.size) {
            throw new IllegalArgumentException("no such bit");
        }
        int turned = row.get(b / 8) ^ (1 << (b % 8));
        row.bytes[b / 8] = (byte) turned;
        return turned;
    }

    public int place(int k, int at) throws IndexOutOfBoundsException, IllegalArgumentException {
        Row row = rowOf(k);
        if (at < 0 || at > row.size) {
            throw new IllegalArgumentException("no such place");
        }
        int was = row.place;
        row.place = at;
        return was;
    }

    // ---- reading

    public long readFixed(int k, int n)
            throws IndexOutOfBoundsException, IllegalArgumentException, NoSuchElementException {
        Row row = rowOf(k);
        needFixedWidth(n);
        needLeft(row, n);
        long v = fixedAt(row, row.place, n);
        row.place += n;
        return v;
    }

    public long readSevens(int k)
            throws IndexOutOfBoundsException, IllegalArgumentException, NoSuchElementException {
        return takeSevens(rowOf(k));
    }

    public long readSigned(int k)
            throws IndexOutOfBoundsException, IllegalArgumentException, NoSuchElementException {
        long v = takeSevens(rowOf(k));
        return (v >>> 1) ^ -(v & 1);
    }

    public int readLetter(int k)
            throws IndexOutOfBoundsException, IllegalArgumentException, NoSuchElementException {
        Row row = rowOf(k);
        int c = letterAt(row, row.place, row.size);
        if (c == WRONG) {
            throw new IllegalArgumentException("the bytes of no letter");
        }
        if (c == ENDED) {
            throw new NoSuchElementException("the row ends within a letter");
        }
        row.place += letterWidth(c);
        return c;
    }

    public int readBlock(int k, int to)
            throws IndexOutOfBoundsException, IllegalArgumentException, NoSuchElementException {
        Row source = rowOf(k);
        Row target = rowOf(to);
        needTwoRows(k, to);
        int head = sevensWidthAtPlace(source);
        int many = howManyAtPlace(source, head);
        needLeft(source, head + many);
        moveBytes(source, source.place + head, many, target);
        return many;
    }

    public int readFrame(int k, int to)
            throws IndexOutOfBoundsException, IllegalArgumentException, NoSuchElementException,
            UnsupportedOperationException {
        Row source = rowOf(k);
        Row target = rowOf(to);
        needTwoRows(k, to);
        int width = sevensWidthAtPlace(source);
        int many = howManyAtPlace(source, width);
        int head = width + SUM_WIDTH;
        needLeft(source, head + many);
        int told = (int) fixedAt(source, source.place + width, SUM_WIDTH);
        if (told != sumOf(source, source.place + head, many)) {
            throw new UnsupportedOperationException("the sum is another one");
        }
        moveBytes(source, source.place + head, many, target);
        return many;
    }

    // ---- looking

    public int letters(int k, int at, int n)
            throws IndexOutOfBoundsException, IllegalArgumentException {
        Row row = rowOf(k);
        needRange(row, at, n);
        int end = at + n;
        int next = at;
        int many = 0;
        // There are at most as many letters as bytes.
        while (many < n && next < end) {
            int c = letterAt(row, next, end);
            if (c == WRONG || c == ENDED) {
                throw new IllegalArgumentException("not whole letters");
            }
            next += letterWidth(c);
            many++;
        }
        return many;
    }

    public int sum(int k, int at, int n)
            throws IndexOutOfBoundsException, IllegalArgumentException {
        Row row = rowOf(k);
        needRange(row, at, n);
        return sumOf(row, at, n);
    }

    public boolean same(int k, int other) throws IndexOutOfBoundsException {
        Row one = rowOf(k);
        Row two = rowOf(other);
        if (one.size != two.size) {
            return false;
        }
        for (int i = 0; i < one.size; i++) {
            if (one.get(i) != two.get(i)) {
                return false;
            }
        }
        return true;
    }

    public int row(int k, int what) throws IndexOutOfBoundsException, IllegalArgumentException {
        Row row = rowOf(k);
        switch (what) {
            case 0:
                return row.size;
            case 1:
                return row.place;
            case 2:
                return row.size - row.place;
            default:
                throw new IllegalArgumentException("what is 0, 1 or 2");
        }
    }

    public int byteAt(int k, int i) throws IndexOutOfBoundsException, IllegalArgumentException {
        Row row = rowOf(k);
        if (i < 0 || i >= row.size) {
            throw new IllegalArgumentException("no such byte");
        }
        return row.get(i);
    }

    // ---- what a call needs

    private Row rowOf(int k) {
        if (k < 0 || k >= ROWS) {
            throw new IndexOutOfBoundsException("no such row");
        }
        return rows[k];
    }

    private static void needFixedWidth(int n) {
        if (n < 1 || n > MOST_FIXED) {
            throw new IllegalArgumentException("a number has 1 to 8 bytes");
        }
    }

    private static void needTwoRows(int k, int to) {
        if (k == to) {
            throw new IllegalArgumentException("a row is not read into itself");
        }
    }

    // Subtracts instead of adding: at + n can be too large for an int.
    private static void needRange(Row row, int at, int n) {
        if (at < 0 || n < 0 || at > row.size || n > row.size - at) {
            throw new IllegalArgumentException("the row has not so many bytes");
        }
    }

    private static void needRoom(Row row, int n) {
        if (n > row.bytes.length - row.size) {
            throw new IllegalStateException("the row would be too long");
        }
    }

    private static void needLeft(Row row, int n) {
        if (n > row.size - row.place) {
            throw new NoSuchElementException("the row ends before it is whole");
        }
    }

    // ---- numbers of fixed width

    private static void addFixed(Row row, long v, int n) {
        for (int i = 0; i < n; i++) {
            row.add((int) (v >>> (8 * i)));
        }
    }

    private static long fixedAt(Row row, int at, int n) {
        long v = 0;
        for (int i = 0; i < n; i++) {
            v |= (long) row.get(at + i) << (8 * i);
        }
        return v;
    }

    // ---- sevens

    private static int sevensWidth(long v) {
        for (int width = 1; width < MOST_SEVENS; width++) {
            if (v >>> (7 * width) == 0) {
                return width;
            }
        }
        return MOST_SEVENS;
    }

    private static int writeSevens(Row row, long v) {
        int width = sevensWidth(v);
        needRoom(row, width);
        addSevens(row, v);
        return width;
    }

    private static void addSevens(Row row, long v) {
        int last = sevensWidth(v) - 1;
        for (int i = 0; i < last; i++) {
            row.add(128 | ((int) (v >>> (7 * i)) & 127));
        }
        row.add((int) (v >>> (7 * last)));
    }

    private static int sevensWidthAtPlace(Row row) {
        for (int i = 0; i < MOST_SEVENS; i++) {
            needLeft(row, i + 1);
            int b = row.get(row.place + i);
            if (b < 128) {
                needRightLast(b, i + 1);
                return i + 1;
            }
        }
        // The tenth is from 128 on: wrong already, whether the row goes on or not.
        throw new IllegalArgumentException("sevens of more than ten bytes");
    }

    private static void needRightLast(int b, int width) {
        if (width > 1 && b == 0) {
            throw new IllegalArgumentException("the last of several sevens is 0");
        }
        if (width == MOST_SEVENS && b > 1) {
            throw new IllegalArgumentException("sevens of more than 64 bits");
        }
    }

    private static long sevensAtPlace(Row row, int width) {
        long v = 0;
        for (int i = 0; i < width; i++) {
            v |= (long) (row.get(row.place + i) & 127) << (7 * i);
        }
        return v;
    }

    private static long takeSevens(Row row) {
        int width = sevensWidthAtPlace(row);
        long v = sevensAtPlace(row, width);
        row.place += width;
        return v;
    }

    private static int howManyAtPlace(Row row, int width) {
        long many = sevensAtPlace(row, width);
        // Sevens have no sign: what is below 0 here is a number from 2^63 on.
        if (many < 0 || many > MOST_BLOCK) {
            throw new IllegalArgumentException("more bytes than a block can have");
        }
        return (int) many;
    }

    // ---- letters

    /** How many bytes the letter c has, 0 when c is no letter. */
    private static int letterWidth(int c) {
        if (c < 0 || c > LAST_LETTER || (c >= FIRST_NO_LETTER && c <= LAST_NO_LETTER)) {
            return 0;
        }
        if (c < 128) {
            return 1;
        }
        if (c < 2048) {
            return 2;
        }
        return c < 65536 ? 3 : 4;
    }

    private static void addLetter(Row row, int c, int width) {
        int bits = 6 * (width - 1);
        row.add(firstMark(width) | (c >>> bits));
        for (int i = 1; i < width; i++) {
            row.add(128 | ((c >>> (bits - 6 * i)) & 63));
        }
    }

    /** What the first byte of a letter of so many bytes has beside the letter's own bits. */
    private static int firstMark(int width) {
        switch (width) {
            case 2:
                return 192;
            case 3:
                return 224;
            case 4:
                return 240;
            default:
                return 0;
        }
    }

    /** How many bytes a letter with this first byte has, 0 when no letter begins so. */
    private static int widthByFirst(int first) {
        if (first < 128) {
            return 1;
        }
        // 192 and 193 would begin letters below 128, 245 and more letters above the last.
        if (first < 194 || first > 244) {
            return 0;
        }
        if (first < 224) {
            return 2;
        }
        return first < 240 ? 3 : 4;
    }

    /** The letter whose bytes begin at at and stand before end, or WRONG, or ENDED. */
    private static int letterAt(Row row, int at, int end) {
        if (at >= end) {
            return ENDED;
        }
        int first = row.get(at);
        int width = widthByFirst(first);
        if (width == 0) {
            return WRONG;
        }
        int c = first - firstMark(width);
        for (int i = 1; i < width; i++) {
            if (at + i >= end) {
                return ENDED;
            }
            int b = row.get(at + i);
            if (b < 128 || b > 191) {
                return WRONG;
            }
            c = (c << 6) | (b & 63);
            // From the second byte on, what can still follow is either all letters of this
            // width or none, so the least of it tells.
            if (letterWidth(c << (6 * (width - 1 - i))) != width) {
                return WRONG;
            }
        }
        return c;
    }

    // ---- bytes of rows

    private static int sumOf(Row row, int at, int n) {
        int s = -1;
        for (int i = 0; i < n; i++) {
            s ^= row.get(at + i);
            for (int bit = 0; bit < 8; bit++) {
                s = (s & 1) != 0 ? (s >>> 1) ^ SUM_TURN : s >>> 1;
            }
        }
        return ~s;
    }

    private static void addBytes(Row row, Row source, int at, int n) {
        System.arraycopy(source.bytes, at, row.bytes, row.size, n);
        row.size += n;
    }

    private static void moveBytes(Row source, int at, int n, Row target) {
        System.arraycopy(source.bytes, at, target.bytes, 0, n);
        target.size = n;
        target.place = 0;
        source.place = at + n;
    }

    /** A row: its bytes are the first size ones of an array that is as long as it may become. */
    private static final class Row {
        final byte[] bytes;
        int size;
        int place;

        Row(int limit) {
            bytes = new byte[limit];
        }

        int get(int i) {
            return bytes[i] & 255;
        }

        void add(int b) {
            bytes[size] = (byte) b;
            size++;
        }
    }
}
