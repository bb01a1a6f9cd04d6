import java.nio.charset.StandardCharsets;
import java.util.HashMap;
import java.util.HashSet;
import java.util.Map;
import java.util.NoSuchElementException;
import java.util.Set;

/**
 * Promises 5, 15 and 18 over every letter, and over every row that begins with up to two bytes of
 * any kind and goes on with bytes at the edges of their kinds. The due bytes are Java's own UTF-8.
 */
public final class LetterTest {
    private static final int LETTERS_END = 1114112;
    private static final int[] EDGES = {0, 65, 127, 128, 143, 144, 159, 160, 191, 192, 194, 224, 240, 255};

    private static final Map<String, Integer> letters = new HashMap<>();
    private static final Set<String> beginnings = new HashSet<>();
    private static int wrong = 0;

    public static void main(String[] args) {
        learnLetters();
        everyLetter();
        everyBeginning();
        System.out.println(wrong == 0 ? "all letters are as due" : wrong + " answers are not as due");
        if (wrong != 0) {
            System.exit(1);
        }
    }

    private static boolean isLetter(int c) {
        return c < 0xD800 || c > 0xDFFF;
    }

    private static byte[] bytesOf(int c) {
        return new String(Character.toChars(c)).getBytes(StandardCharsets.UTF_8);
    }

    private static String text(byte[] bytes, int n) {
        return new String(bytes, 0, n, StandardCharsets.ISO_8859_1);
    }

    private static void learnLetters() {
        beginnings.add("");
        for (int c = 0; c < LETTERS_END; c++) {
            if (isLetter(c)) {
                byte[] bytes = bytesOf(c);
                letters.put(text(bytes, bytes.length), c);
                for (int n = 1; n < bytes.length; n++) {
                    beginnings.add(text(bytes, n));
                }
            }
        }
    }

    private static void everyLetter() {
        PacketDesk x = null;
        for (int c = 0; c < LETTERS_END; c++) {
            if (c % 50 == 0) {
                x = new PacketDesk(16);
            }
            if (isLetter(c)) {
                byte[] bytes = bytesOf(c);
                due("letter " + c, bytes.length, x.letter(0, c));
                for (int i = 0; i < bytes.length; i++) {
                    due("byte " + i + " of letter " + c, bytes[i] & 255, x.byteAt(0, i));
                }
                due("readLetter", c, x.readLetter(0));
                due("place behind " + c, bytes.length, x.row(0, 1));
                x.cut(0, 0);
            } else {
                due("letter " + c, "IllegalArgumentException", writing(x, c));
            }
        }
    }

    private static Object writing(PacketDesk x, int c) {
        try {
            return x.letter(0, c);
        } catch (RuntimeException e) {
            return e.getClass().getSimpleName();
        }
    }

    private static void everyBeginning() {
        reading("");
        for (int first = 0; first < 256; first++) {
            String one = "" + (char) first;
            reading(one);
            for (int second = 0; second < 256; second++) {
                String two = one + (char) second;
                reading(two);
                if (first >= 192) {
                    longer(two);
                }
            }
        }
    }

    private static void longer(String two) {
        for (int third : EDGES) {
            String three = two + (char) third;
            reading(three);
            for (int fourth : EDGES) {
                reading(three + (char) fourth);
            }
        }
    }

    private static void reading(String bytes) {
        PacketDesk x = new PacketDesk(16);
        for (int i = 0; i < bytes.length(); i++) {
            x.fixed(1, bytes.charAt(i), 1);
        }
        Object want = dueReading(bytes);
        due("readLetter of " + shown(bytes), want, read(x));
        int place = want instanceof Integer ? bytesOf((Integer) want).length : 0;
        due("place behind " + shown(bytes), place, x.row(1, 1));
        due("letters of " + shown(bytes), dueCount(bytes), count(x, bytes.length()));
    }

    private static Object dueReading(String bytes) {
        for (int n = 1; n <= bytes.length() && n <= 4; n++) {
            Integer c = letters.get(bytes.substring(0, n));
            if (c != null) {
                return c;
            }
        }
        return beginnings.contains(bytes) ? NoSuchElementException.class.getSimpleName() : "IllegalArgumentException";
    }

    private static Object dueCount(String bytes) {
        int many = 0;
        int next = 0;
        while (next < bytes.length()) {
            Object c = dueReading(bytes.substring(next));
            if (!(c instanceof Integer)) {
                return "IllegalArgumentException";
            }
            next += bytesOf((Integer) c).length;
            many++;
        }
        return many;
    }

    private static Object read(PacketDesk x) {
        try {
            return x.readLetter(1);
        } catch (RuntimeException e) {
            return e.getClass().getSimpleName();
        }
    }

    private static Object count(PacketDesk x, int n) {
        try {
            return x.letters(1, 0, n);
        } catch (RuntimeException e) {
            return e.getClass().getSimpleName();
        }
    }

    private static String shown(String bytes) {
        StringBuilder text = new StringBuilder();
        for (int i = 0; i < bytes.length(); i++) {
            text.append((int) bytes.charAt(i)).append(' ');
        }
        return text.toString();
    }

    private static void due(String call, Object want, Object got) {
        if (!want.equals(got)) {
            wrong++;
            if (wrong <= 20) {
                System.out.println(call + " gave " + got + ", due is " + want);
            }
        }
    }
}
