import java.util.Arrays;
import java.util.Random;

/**
 * Calls with any arguments in any state, far beyond the 512 that answers are promised for: no call may
 * throw or fail to end. Within the 512 an answer below 0 must be one of the four errors.
 */
public final class WildRunsTest {
    private static final int RUNS = 120;
    private static final int CALLS = 6000;
    private static final int JUDGED = 500;
    /** Ends of ranges, what is beyond them, and the characters of texts. */
    private static final int[] PICKED = {0, 1, 2, 3, 4, 5, 6, 7, 8, 9, 10, 11, 12, 19, 20, 21, 22, 23, 31,
        32, 50, 51, 60, 61, 99, 100, 126, 127, 200, 255, 256, 512, 999, 1000, 9999, 65536, -1, -2,
        Integer.MIN_VALUE, Integer.MIN_VALUE + 1, Integer.MAX_VALUE - 1, Integer.MAX_VALUE, ',', ';',
        'p', 'l', 'c', 'm', 'b', 'u', 'n'};
    private static final int SMALL = 13;

    private final Random random;
    private final CoughBids x = new CoughBids();
    private final int seed;

    private WildRunsTest(int seed) {
        this.seed = seed;
        this.random = new Random(seed);
    }

    private int pick() {
        int kind = random.nextInt(40);
        if (kind == 0) {
            return random.nextInt();
        }
        return PICKED[random.nextInt(kind < 12 ? PICKED.length : SMALL)];
    }

    private int[] arguments(int call) {
        int[] of = new int[Calls.argumentsOf(call)];
        for (int i = 0; i < of.length; i++) {
            of[i] = pick();
        }
        return of;
    }

    /** Any call; undo and clearText more seldom, so that states and texts grow. */
    private int pickCall() {
        int call = random.nextInt(Calls.NAMES.size());
        String name = Calls.NAMES.get(call);
        boolean rare = name.equals("undo") || name.equals("clearText");
        return rare && random.nextInt(4) > 0 ? pickCall() : call;
    }

    private void run() {
        for (int made = 1; made <= JUDGED; made++) {
            int call = pickCall();
            int[] of = arguments(call);
            int answer = Calls.make(x, call, of);
            boolean error = answer <= CoughBids.INVALID_ARGUMENT && answer >= CoughBids.NOT_FOUND;
            String told = "seed " + seed + ", call " + made + ": " + Calls.NAMES.get(call);
            Due.due(told + Arrays.toString(of) + " is a number or an error",
                answer >= 0 || error ? 1 : 0, 1);
        }
        Due.due("seed " + seed + ": coins told in two ways", x.count(9), x.count(8));
        for (int made = JUDGED + 1; made <= CALLS; made++) {
            int call = pickCall();
            Calls.make(x, call, arguments(call));
        }
    }

    /** Play upon play, also when no beats are left; the nights take the colds, so that lots are sold. */
    private static void longPlays() {
        CoughBids x = Scenes.strong(9, 9);
        x.catches(0, 5);
        x.catches(1, 5);
        Due.type(x, "l1,20;u;c0;c1;c0;c1;b50;b50;b50;b50;b50;b50;b50;b50;n;");
        int played = 0;
        for (int i = 0; i < 400; i++) {
            played += x.play() > 0 ? 1 : 0;
        }
        Due.due("plays up to 9999 beats", played, 24);
        Due.due("lots came", x.count(4), 24);
        Due.due("not sold, for five colds that get less", x.count(18), 5);
        Due.due("sold", x.count(5), 19);
        Due.due("coins told in two ways", x.count(9), x.count(8));
    }

    public static void main(String[] args) {
        for (int seed = 0; seed < RUNS; seed++) {
            new WildRunsTest(seed).run();
        }
        longPlays();
        Due.end("WildRunsTest");
    }
}
