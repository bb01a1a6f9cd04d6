import java.math.BigInteger;
import java.nio.ByteBuffer;
import java.nio.ByteOrder;
import java.nio.charset.CharacterCodingException;
import java.nio.charset.StandardCharsets;
import java.util.ArrayList;
import java.util.Arrays;
import java.util.List;
import java.util.NoSuchElementException;
import java.util.Random;
import java.util.zip.CRC32;

/**
 * Long runs of mixed calls, the same ones every time, with each answer set against a second desk
 * that is written over Java's library (BigInteger, CRC32, ByteBuffer, the UTF-8 decoder).
 */
public final class ModelTest {
    private static final int RUNS = 3000;
    private static final int CALLS = 400;
    private static final int KINDS = 21;
    private static final int LEAST_TRIES = 1000;
    // The call that reads what each call writes, by their numbers in desk(..); 0 for none.
    private static final int[] READING = {0, 11, 12, 13, 0, 14, 15, 0, 0, 0, 0, 0, 0, 0, 0, 0, 0, 0, 0, 0, 0};
    private static final BigInteger MOST = BigInteger.valueOf(65536);
    private static final int[] LIMITS = {-5, 15, 16, 20, 40, 150, 300, 1000, 65536, 70000};
    private static final int[] ODD = {Integer.MIN_VALUE, -9, -1, 0, 1, 2, 16, 65536, 65537, Integer.MAX_VALUE};
    private static final int[] LETTERS = {0, 65, 127, 128, 2047, 2048, 55295, 55296, 57343, 57344, 65535, 65536, 1114111,
        1114112};
    private static final int[] BYTES = {0, 1, 2, 3, 4, 65, 127, 128, 129, 143, 144, 159, 160, 191, 192, 194, 224, 225,
        237, 240, 241, 244, 245, 255};

    private static int wrong = 0;

    public static void main(String[] args) {
        int[] answered = new int[KINDS];
        int[] thrown = new int[KINDS];
        for (int run = 0; run < RUNS && wrong < 20; run++) {
            oneRun(new Random(run), run, answered, thrown);
        }
        for (int kind = 0; kind < KINDS; kind++) {
            if (answered[kind] < LEAST_TRIES || thrown[kind] < LEAST_TRIES) {
                fault("call " + kind + " is hardly tried: " + answered[kind] + " and " + thrown[kind]);
            }
        }
        System.out.println(wrong == 0 ? "all runs are as due" : wrong + " answers are not as due");
        if (wrong != 0) {
            System.exit(1);
        }
    }

    private static void fault(String text) {
        wrong++;
        System.out.println(text);
    }

    private static void oneRun(Random random, int run, int[] answered, int[] thrown) {
        int limit = LIMITS[random.nextInt(LIMITS.length)];
        PacketDesk x = new PacketDesk(limit);
        Model model = new Model(Math.max(16, Math.min(65536, limit)));
        List<String> done = new ArrayList<>();
        List<int[]> planned = new ArrayList<>();
        for (int call = 0; call < CALLS; call++) {
            boolean free = planned.isEmpty();
            int[] plan = free ? null : planned.remove(0);
            int kind = free ? random.nextInt(KINDS) : plan[0];
            int[] a = free ? arguments(random, kind, model) : Arrays.copyOfRange(plan, 1, plan.length);
            long v = number(random);
            if (free && READING[kind] != 0 && random.nextInt(3) == 0 && a[0] >= 0 && a[0] < 4) {
                planReading(random, planned, READING[kind], a[0], model.bytes[a[0]].length);
            }
            Object want = answerOf(() -> model.call(kind, a, v));
            Object got = answerOf(() -> desk(x, kind, a, v));
            done.add(kind + Arrays.toString(a) + " " + v + " = " + got);
            (want instanceof Class ? thrown : answered)[kind]++;
            if (!want.equals(got)) {
                fault("run " + run + ", limit " + limit + ": " + done + ", due is " + want);
                return;
            }
        }
        sameRows(x, model, run);
    }

    /** What is written next is read again, at times with one of its first bits turned round. */
    private static void planReading(Random random, List<int[]> planned, int reading, int k, int at) {
        if (random.nextInt(3) == 0) {
            planned.add(new int[] {8, k, 8 * at + random.nextInt(64)});
        }
        planned.add(new int[] {9, k, at});
        planned.add(new int[] {reading, k, (k + 1 + random.nextInt(3)) % 4});
    }

    private static void sameRows(PacketDesk x, Model model, int run) {
        for (int k = 0; k < 4; k++) {
            byte[] bytes = model.bytes[k];
            if (x.row(k, 0) != bytes.length || x.row(k, 1) != model.place[k]
                || x.sum(k, 0, bytes.length) != Model.crc(bytes)) {
                fault("run " + run + ": row " + k + " is another one in the end");
            }
        }
    }

    private interface Asked {
        Object answer();
    }

    private static Object answerOf(Asked call) {
        try {
            return call.answer();
        } catch (RuntimeException e) {
            return e.getClass();
        }
    }

    // ---- what is called

    private static int rowNumber(Random random) {
        return random.nextInt(60) == 0 ? new int[] {-1, 4, Integer.MIN_VALUE}[random.nextInt(3)] : random.nextInt(4);
    }

    private static int near(Random random, int end) {
        switch (random.nextInt(8)) {
            case 0:
                return ODD[random.nextInt(ODD.length)];
            case 1:
            case 2:
                return end + random.nextInt(3) - 1;
            default:
                return random.nextInt(end + 1);
        }
    }

    private static long number(Random random) {
        switch (random.nextInt(6)) {
            case 0:
                return random.nextInt(6);
            case 1:
                return BYTES[random.nextInt(BYTES.length)];
            case 2:
                return (1L << random.nextInt(64)) - random.nextInt(3);
            case 3:
                return -random.nextLong() >>> random.nextInt(64);
            case 4:
                return edgeBytes(random);
            default:
                return random.nextLong();
        }
    }

    private static long edgeBytes(Random random) {
        long v = 0;
        for (int i = 0; i < 8; i++) {
            v = v << 8 | (random.nextBoolean() ? 128 : BYTES[random.nextInt(BYTES.length)]);
        }
        return v;
    }

    private static int[] arguments(Random random, int kind, Model model) {
        int k = rowNumber(random);
        int second = rowNumber(random);
        int size = k >= 0 && k < 4 ? model.bytes[k].length : 5;
        switch (kind) {
            case 0:
            case 10:
                return new int[] {k, random.nextInt(12) == 0 ? near(random, 9) : 1 + random.nextInt(8)};
            case 3:
                return new int[] {k, random.nextInt(3) == 0 ? random.nextInt(1200000) - 1000
                    : LETTERS[random.nextInt(LETTERS.length)]};
            case 4:
                size = second >= 0 && second < 4 ? model.bytes[second].length : 5;
                int at = near(random, size);
                return new int[] {k, second, at, near(random, Math.max(0, size - Math.max(0, at)))};
            case 8:
                return new int[] {k, near(random, 8 * size)};
            case 7:
                return new int[] {k, random.nextInt(3) == 0 ? near(random, size) : Math.max(0, size - random.nextInt(4))};
            case 9:
            case 20:
                return new int[] {k, near(random, size)};
            case 16:
            case 17:
                int from = near(random, size);
                return new int[] {k, from, near(random, Math.min(random.nextInt(12), Math.max(0, size - Math.max(0, from))))};
            case 19:
                return new int[] {k, random.nextInt(5) - 1};
            default:
                return new int[] {k, second};
        }
    }

    private static Object desk(PacketDesk x, int kind, int[] a, long v) {
        switch (kind) {
            case 0: return x.fixed(a[0], v, a[1]);
            case 1: return x.sevens(a[0], v);
            case 2: return x.signed(a[0], v);
            case 3: return x.letter(a[0], a[1]);
            case 4: return x.copy(a[0], a[1], a[2], a[3]);
            case 5: return x.block(a[0], a[1]);
            case 6: return x.frame(a[0], a[1]);
            case 7: return x.cut(a[0], a[1]);
            case 8: return x.turn(a[0], a[1]);
            case 9: return x.place(a[0], a[1]);
            case 10: return x.readFixed(a[0], a[1]);
            case 11: return x.readSevens(a[0]);
            case 12: return x.readSigned(a[0]);
            case 13: return x.readLetter(a[0]);
            case 14: return x.readBlock(a[0], a[1]);
            case 15: return x.readFrame(a[0], a[1]);
            case 16: return x.letters(a[0], a[1], a[2]);
            case 17: return x.sum(a[0], a[1], a[2]);
            case 18: return x.same(a[0], a[1]);
            case 19: return x.row(a[0], a[1]);
            default: return x.byteAt(a[0], a[1]);
        }
    }

    /** The second desk: every row is an array of just its bytes, made anew by each change. */
    private static final class Model {
        private final int limit;
        private final byte[][] bytes = {{}, {}, {}, {}};
        private final int[] place = new int[4];

        private Model(int limit) {
            this.limit = limit;
        }

        private static int crc(byte[] bytes) {
            CRC32 sum = new CRC32();
            sum.update(bytes);
            return (int) sum.getValue();
        }

        private Object call(int kind, int[] a, long v) {
            int k = a[0];
            boolean twoRows = kind >= 4 && kind <= 6 || kind == 14 || kind == 15 || kind == 18;
            if (k < 0 || k > 3 || twoRows && (a[1] < 0 || a[1] > 3)) {
                throw new IndexOutOfBoundsException();
            }
            switch (kind) {
                case 0: return fixed(k, v, a[1]);
                case 1: return write(k, sevens(unsigned(v)));
                case 2: return write(k, sevens(zigzag(v)));
                case 3: return letter(k, a[1]);
                case 4: write(k, range(a[1], a[2], a[3])); return bytes[k].length;
                case 5: return write(k, joined(sevens(count(a[1])), bytes[a[1]]));
                case 6: return write(k, joined(sevens(count(a[1])), little(crc(bytes[a[1]]), 4), bytes[a[1]]));
                case 7: return cut(k, a[1]);
                case 8: return turn(k, a[1]);
                case 9: return moved(k, a[1]);
                case 10: return readFixed(k, a[1]);
                case 11: return readSevens(k).longValue();
                case 12: return unzigzag(readSevens(k));
                case 13: return readLetter(k);
                case 14: return readBlock(k, a[1], false);
                case 15: return readBlock(k, a[1], true);
                case 16: return letters(range(k, a[1], a[2]));
                case 17: return crc(range(k, a[1], a[2]));
                case 18: return Arrays.equals(bytes[k], bytes[a[1]]);
                case 19: return row(k, a[1]);
                default: return range(k, a[1], 1)[0] & 255;
            }
        }

        private static void need(boolean holds) {
            if (!holds) {
                throw new IllegalArgumentException();
            }
        }

        private BigInteger count(int k) {
            return BigInteger.valueOf(bytes[k].length);
        }

        private static BigInteger unsigned(long v) {
            return new BigInteger(Long.toUnsignedString(v));
        }

        private static BigInteger zigzag(long v) {
            BigInteger twice = BigInteger.valueOf(v).shiftLeft(1);
            return v < 0 ? twice.negate().subtract(BigInteger.ONE) : twice;
        }

        private static long unzigzag(BigInteger u) {
            BigInteger half = u.shiftRight(1);
            return (u.testBit(0) ? half.negate().subtract(BigInteger.ONE) : half).longValueExact();
        }

        private static byte[] sevens(BigInteger v) {
            int many = Math.max(1, (v.bitLength() + 6) / 7);
            byte[] out = new byte[many];
            BigInteger[] parts = {v, null};
            for (int i = 0; i < many; i++) {
                parts = parts[0].divideAndRemainder(BigInteger.valueOf(128));
                out[i] = (byte) (parts[1].intValue() + (i < many - 1 ? 128 : 0));
            }
            return out;
        }

        private static byte[] little(long v, int n) {
            byte[] all = ByteBuffer.allocate(8).order(ByteOrder.LITTLE_ENDIAN).putLong(v).array();
            return Arrays.copyOf(all, n);
        }

        private static byte[] joined(byte[]... parts) {
            java.io.ByteArrayOutputStream out = new java.io.ByteArrayOutputStream();
            for (byte[] part : parts) {
                out.writeBytes(part);
            }
            return out.toByteArray();
        }

        private int write(int k, byte[] more) {
            if ((long) bytes[k].length + more.length > limit) {
                throw new IllegalStateException();
            }
            bytes[k] = joined(bytes[k], more);
            return more.length;
        }

        private byte[] range(int k, int at, int n) {
            need(at >= 0 && n >= 0 && (long) at + n <= bytes[k].length);
            return Arrays.copyOfRange(bytes[k], at, at + n);
        }

        private int fixed(int k, long v, int n) {
            need(n >= 1 && n <= 8);
            write(k, little(v, n));
            return bytes[k].length;
        }

        private int letter(int k, int c) {
            need(Character.isValidCodePoint(c) && Character.getType(c) != Character.SURROGATE);
            return write(k, new String(Character.toChars(c)).getBytes(StandardCharsets.UTF_8));
        }

        private int cut(int k, int size) {
            int had = bytes[k].length;
            bytes[k] = range(k, 0, size);
            place[k] = Math.min(place[k], size);
            return had;
        }

        private int turn(int k, int b) {
            need(b >= 0 && b < 8 * bytes[k].length);
            bytes[k][b / 8] ^= (byte) (1 << b % 8);
            return bytes[k][b / 8] & 255;
        }

        private int moved(int k, int at) {
            range(k, 0, at);
            int was = place[k];
            place[k] = at;
            return was;
        }

        private int row(int k, int what) {
            need(what >= 0 && what <= 2);
            return new int[] {bytes[k].length, place[k], bytes[k].length - place[k]}[what];
        }

        private byte[] left(int k) {
            return Arrays.copyOfRange(bytes[k], place[k], bytes[k].length);
        }

        private static byte[] whole(byte[] from, int at, int n) {
            if (from.length - at < n) {
                throw new NoSuchElementException();
            }
            return Arrays.copyOfRange(from, at, at + n);
        }

        private static BigInteger unsigned(byte[] lowestFirst) {
            BigInteger v = BigInteger.ZERO;
            for (int i = lowestFirst.length - 1; i >= 0; i--) {
                v = v.multiply(BigInteger.valueOf(256)).add(BigInteger.valueOf(lowestFirst[i] & 255));
            }
            return v;
        }

        private long readFixed(int k, int n) {
            need(n >= 1 && n <= 8);
            long v = unsigned(whole(left(k), 0, n)).longValue();
            place[k] += n;
            return v;
        }

        /** The number whose sevens these bytes begin with: what is written of it must be the same bytes. */
        private static BigInteger sevensOf(byte[] from) {
            BigInteger v = BigInteger.ZERO;
            for (int i = 0; i < 10; i++) {
                int b = whole(from, i, 1)[0] & 255;
                v = v.add(BigInteger.valueOf(b & 127).shiftLeft(7 * i));
                if (b < 128) {
                    need(v.bitLength() <= 64 && sevens(v).length == i + 1);
                    return v;
                }
            }
            throw new IllegalArgumentException();
        }

        private BigInteger readSevens(int k) {
            BigInteger v = sevensOf(left(k));
            place[k] += sevens(v).length;
            return v;
        }

        private static String decoded(byte[] from) {
            try {
                return StandardCharsets.UTF_8.newDecoder().decode(ByteBuffer.wrap(from)).toString();
            } catch (CharacterCodingException e) {
                return null;
            }
        }

        private static boolean canGoOn(byte[] from) {
            for (int more = 1; more + from.length <= 4; more++) {
                for (int filler : new int[] {0x80, 0x90, 0xA0, 0xBF}) {
                    byte[] tail = new byte[more];
                    Arrays.fill(tail, (byte) filler);
                    String text = decoded(joined(from, tail));
                    if (text != null && text.codePointCount(0, text.length()) == 1) {
                        return true;
                    }
                }
            }
            return false;
        }

        private int readLetter(int k) {
            byte[] from = left(k);
            for (int n = 1; n <= 4 && n <= from.length; n++) {
                String text = decoded(Arrays.copyOf(from, n));
                if (text != null) {
                    place[k] += n;
                    return text.codePointAt(0);
                }
            }
            need(from.length == 0 || from.length < 4 && canGoOn(from));
            throw new NoSuchElementException();
        }

        private static int letters(byte[] from) {
            String text = decoded(from);
            need(text != null);
            return text.codePointCount(0, text.length());
        }

        private int readBlock(int k, int to, boolean withSum) {
            need(k != to);
            byte[] from = left(k);
            BigInteger told = sevensOf(from);
            need(told.compareTo(MOST) <= 0);
            int head = sevens(told).length + (withSum ? 4 : 0);
            byte[] inside = whole(from, head, told.intValue());
            if (withSum && !Arrays.equals(Arrays.copyOfRange(from, head - 4, head), little(crc(inside), 4))) {
                throw new UnsupportedOperationException();
            }
            bytes[to] = inside;
            place[to] = 0;
            place[k] += head + inside.length;
            return inside.length;
        }
    }
}
