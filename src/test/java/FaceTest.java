import java.lang.reflect.Constructor;
import java.lang.reflect.Field;
import java.lang.reflect.Method;
import java.lang.reflect.Modifier;
import java.nio.file.Files;
import java.nio.file.Path;
import java.util.Set;
import java.util.TreeSet;
import java.util.regex.Matcher;
import java.util.regex.Pattern;

/**
 * The class has the document's face, with the exceptions it names, and no other member that is not
 * private; and its file keeps to those rules of LANGUAGE.md that words in the text show.
 */
public final class FaceTest {
    private static final String ROW = "IndexOutOfBoundsException";
    private static final String ROW_WRONG = ROW + ", IllegalArgumentException";
    private static final String ROW_LONG = ROW + ", IllegalStateException";
    private static final String WRITES = ROW_WRONG + ", IllegalStateException";
    private static final String READS = ROW_WRONG + ", NoSuchElementException";

    private static final String[] FACE = {
        "int fixed(int, long, int) throws " + WRITES,
        "int sevens(int, long) throws " + ROW_LONG,
        "int signed(int, long) throws " + ROW_LONG,
        "int letter(int, int) throws " + WRITES,
        "int copy(int, int, int, int) throws " + WRITES,
        "int block(int, int) throws " + ROW_LONG,
        "int frame(int, int) throws " + ROW_LONG,
        "int cut(int, int) throws " + ROW_WRONG,
        "int turn(int, int) throws " + ROW_WRONG,
        "int place(int, int) throws " + ROW_WRONG,
        "long readFixed(int, int) throws " + READS,
        "long readSevens(int) throws " + READS,
        "long readSigned(int) throws " + READS,
        "int readLetter(int) throws " + READS,
        "int readBlock(int, int) throws " + READS,
        "int readFrame(int, int) throws " + READS + ", UnsupportedOperationException",
        "int letters(int, int, int) throws " + ROW_WRONG,
        "int sum(int, int, int) throws " + ROW_WRONG,
        "boolean same(int, int) throws " + ROW,
        "int row(int, int) throws " + ROW_WRONG,
        "int byteAt(int, int) throws " + ROW_WRONG,
    };

    private static int wrong = 0;

    public static void main(String[] args) throws Exception {
        classAndConstructor();
        methods();
        fields();
        words();
        System.out.println(wrong == 0 ? "the face is as due" : wrong + " faults");
        if (wrong != 0) {
            System.exit(1);
        }
    }

    private static void due(boolean holds, String text) {
        if (!holds) {
            wrong++;
            System.out.println("not as due: " + text);
        }
    }

    private static void classAndConstructor() {
        int kind = PacketDesk.class.getModifiers();
        due(Modifier.isPublic(kind) && Modifier.isFinal(kind), "public final class");
        due(PacketDesk.class.getPackageName().isEmpty(), "no package");
        Constructor<?>[] made = PacketDesk.class.getDeclaredConstructors();
        due(made.length == 1 && made[0].toString().equals("public PacketDesk(int)"), "one constructor");
    }

    private static void methods() {
        Set<String> want = new TreeSet<>(Set.of(FACE));
        Set<String> got = new TreeSet<>();
        Set<String> names = new TreeSet<>();
        for (Method m : PacketDesk.class.getDeclaredMethods()) {
            if (!Modifier.isPrivate(m.getModifiers())) {
                due(m.getModifiers() == Modifier.PUBLIC, "public and no more: " + m);
                got.add(written(m));
                names.add(m.getName());
            }
        }
        due(got.equals(want), "methods " + got + " for " + want);
        for (Method m : PacketDesk.class.getDeclaredMethods()) {
            due(!Modifier.isPrivate(m.getModifiers()) || !names.contains(m.getName()), "a private " + m.getName());
        }
    }

    private static String written(Method m) {
        return m.getReturnType().getSimpleName() + " " + m.getName() + "(" + joined(m.getParameterTypes())
            + ") throws " + joined(m.getExceptionTypes());
    }

    private static String joined(Class<?>[] types) {
        StringBuilder text = new StringBuilder();
        for (Class<?> type : types) {
            text.append(text.length() == 0 ? "" : ", ").append(type.getSimpleName());
        }
        return text.toString();
    }

    private static void fields() {
        for (Field f : PacketDesk.class.getDeclaredFields()) {
            due(Modifier.isPrivate(f.getModifiers()), "private: " + f);
            due(!Modifier.isStatic(f.getModifiers()) || Modifier.isFinal(f.getModifiers()), "final: " + f);
        }
    }

    private static void words() throws Exception {
        String text = Files.readString(Path.of("src/main/java/PacketDesk.java"));
        String code = text.replaceAll("(?s)/\\*.*?\\*/", "").replaceAll("//.*", "").replaceAll("\"[^\"]*\"", "\"\"");
        Matcher m = Pattern.compile("\\b(try|catch|finally|synchronized|assert|package)\\b|->|::|Exact\\(").matcher(code);
        while (m.find()) {
            due(false, "the word " + m.group());
        }
    }
}
