import java.lang.reflect.Constructor;
import java.lang.reflect.Field;
import java.lang.reflect.Method;
import java.lang.reflect.Modifier;
import java.nio.file.Files;
import java.nio.file.Path;
import java.util.Arrays;
import java.util.List;
import java.util.Set;
import java.util.TreeSet;

/** What can be looked at of ../shared/LANGUAGE.md: the face, the sizes, words, and objects made. */
public final class LanguageTest {
    private static final Path SOURCE = Path.of("src/main/java/CoughBids.java");
    private static final List<String> FACE = List.of("at", "beats", "bidder", "bidderOf", "book",
        "catches", "clearText", "cough", "coughing", "count", "fault", "goneIn", "ifBeats",
        "ifNights", "lot", "loudest", "mean", "muffle", "night", "play", "putUp", "set", "type",
        "undo", "up", "waiting", "why");
    private static final List<String> CONSTANTS = List.of("INVALID_ARGUMENT", "LIMIT_REACHED",
        "NOT_FOUND", "NOT_POSSIBLE");
    private static final String[] UNWANTED = {"import", "package", "->", "::", "throw", "try", "catch ",
        "finally", "assert", "synchronized", "static {", "Exact", "Float", "Double", "System.out",
        "Object", "equals", "hashCode", "toString", "instanceof", "\"", "record ", "while (true)",
        "for (;;)", "protected", "@", "?>", "volatile", "native", "System.exit", "nanoTime",
        "Random", "Thread"};

    private LanguageTest() {
    }

    private static void holds(String what, boolean holds) {
        Due.due(what, holds ? 1 : 0, 1);
    }

    private static void face() {
        Set<String> methods = new TreeSet<>();
        for (Method method : CoughBids.class.getDeclaredMethods()) {
            boolean open = Modifier.isPublic(method.getModifiers());
            holds(method + " is public or private", open || method.isSynthetic()
                || Modifier.isPrivate(method.getModifiers()));
            holds(method + " bears a name of its own", open || !FACE.contains(method.getName()));
            if (open) {
                methods.add(method.getName());
            }
        }
        holds("public methods: " + methods, List.copyOf(methods).equals(FACE));
        Set<String> constants = new TreeSet<>();
        for (Field field : CoughBids.class.getDeclaredFields()) {
            if (!Modifier.isPrivate(field.getModifiers())) {
                constants.add(field.getName());
            }
        }
        holds("constants: " + constants, List.copyOf(constants).equals(CONSTANTS));
        Constructor<?>[] constructors = CoughBids.class.getDeclaredConstructors();
        holds("one constructor", constructors.length == 1
            && Modifier.isPublic(constructors[0].getModifiers()));
        holds("a final class", Modifier.isFinal(CoughBids.class.getModifiers()));
    }

    private static void sizes() {
        Class<?>[] classes = CoughBids.class.getDeclaredClasses();
        holds("at most some twelve classes", classes.length < 12);
        for (Class<?> one : classes) {
            holds(one + " is static", Modifier.isStatic(one.getModifiers()));
            sizesOf(one);
        }
        sizesOf(CoughBids.class);
    }

    private static void sizesOf(Class<?> one) {
        int fields = 0;
        for (Field field : one.getDeclaredFields()) {
            boolean constant = Modifier.isStatic(field.getModifiers());
            fields += constant ? 0 : 1;
            holds(field + " is no static state", !constant || Modifier.isFinal(field.getModifiers()));
        }
        holds(one + " has at most twenty fields", fields <= 20);
        for (Method method : one.getDeclaredMethods()) {
            holds(method + " has at most seven parameters", method.getParameterCount() <= 7);
            holds(method + " bears no name of the face", one == CoughBids.class
                || !FACE.contains(method.getName()));
        }
    }

    private static void words() throws java.io.IOException {
        int began = 0;
        List<String> lines = Files.readAllLines(SOURCE);
        for (int i = 0; i < lines.size(); i++) {
            String line = lines.get(i);
            boolean comment = line.trim().startsWith("*") || line.trim().startsWith("/");
            for (String word : UNWANTED) {
                holds("line " + (i + 1) + " without " + word, comment || !line.contains(word));
            }
            holds("signs of line " + (i + 1), line.chars().allMatch(sign -> sign >= 32 && sign < 127));
            if (line.endsWith(") {") && !line.contains("for (") && !line.contains("if (")
                && !line.contains("switch (") && !line.contains("while (")) {
                began = i;
            }
            holds("a long method at line " + (i + 1), line.isEmpty() || i - began <= 60
                || line.startsWith("    private static final class") || !line.contains(";"));
        }
    }

    private static void everyCall(CoughBids x, int round) {
        int[] answers = {x.bidder(round % 6, round % 8, 900, 2), x.catches(0, 5), x.muffle(0, 1),
            x.lot(1, 1), x.putUp(), x.cough(0), x.beats(3), x.night(), x.set(0, 1),
            x.bidderOf(0, 6), x.at(0, 0), x.up(6), x.waiting(0, 0), x.book(0, 2), x.why(0),
            x.ifBeats(50, 0), x.goneIn(), x.coughing(), x.loudest(), x.ifNights(20), x.mean(),
            x.count(9), x.type('n'), x.type(';'), x.fault(0), x.play(), x.undo(), x.lot(0, 0)};
        holds("round " + round, Arrays.stream(answers).sum() != 1);
    }

    /** All calls live in one room: an object makes all that it needs when it is made. */
    private static void room() {
        com.sun.management.ThreadMXBean threads = (com.sun.management.ThreadMXBean)
            java.lang.management.ManagementFactory.getThreadMXBean();
        for (int round = 0; round < 3; round++) {
            everyCall(new CoughBids(), round);
        }
        CoughBids x = new CoughBids();
        long before = threads.getThreadAllocatedBytes(Thread.currentThread().getId());
        long between = threads.getThreadAllocatedBytes(Thread.currentThread().getId());
        callsAlone(x);
        long behind = threads.getThreadAllocatedBytes(Thread.currentThread().getId());
        Due.due("bytes that calls make", (int) (behind - between), (int) (between - before));
        new CoughBids();
        long made = threads.getThreadAllocatedBytes(Thread.currentThread().getId());
        holds("an object is small", made - behind < 40000);
    }

    private static int callsAlone(CoughBids x) {
        int sum = 0;
        for (int round = 0; round < 17; round++) {
            sum += x.bidder(round % 6, round % 8, 900, 2) + x.catches(0, 5) + x.muffle(0, 1)
                + x.lot(1, 1) + x.putUp() + x.cough(0) + x.beats(3) + x.night() + x.set(0, 1)
                + x.bidderOf(0, 6) + x.at(0, 0) + x.up(6) + x.waiting(0, 0) + x.book(0, 2) + x.why(0)
                + x.ifBeats(50, 0) + x.goneIn() + x.coughing() + x.loudest() + x.ifNights(20)
                + x.mean() + x.count(9) + x.type('n') + x.type(';') + x.fault(0) + x.play()
                + x.undo();
        }
        return sum;
    }

    public static void main(String[] args) throws java.io.IOException {
        face();
        sizes();
        words();
        room();
        Due.end("LanguageTest");
    }
}
