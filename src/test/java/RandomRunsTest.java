import java.util.Arrays;
import java.util.Random;

/** Runs of calls, chosen by seeds that stay the same, against the model: each answer must agree. */
public final class RandomRunsTest {
    /** For each call what is in range for its arguments: least and most by turns. */
    private static final int[][] RANGES = {{0, 5, 0, 7, 0, 999, 1, 9}, {0, 11, 0, 5}, {0, 11, 0, 5},
        {1, 99, 1, 20}, {}, {0, 11}, {1, 50}, {}, {0, 2, 1, 9}, {0, 11, 0, 10}, {0, 5, 0, 7}, {0, 8},
        {0, 7, 0, 1}, {0, 7, 0, 4}, {0, 11}, {1, 50, 0, 3}, {}, {}, {}, {1, 20}, {}, {0, 22}, {},
        {32, 126}, {}, {0, 2}, {}};
    private static final int[] PLAIN = {6, 10, 4, 8, 8, 30, 14, 6, 3, 4, 2, 8, 2, 5, 8, 8, 8, 4, 3, 4,
        2, 10, 4, 2, 1, 3, 2};
    private static final int MOST_CALLS = 512;

    private final Random random;
    private final CoughBids program = new CoughBids();
    private final Model model = new Model();
    private final int seed;
    private int calls;

    private RandomRunsTest(int seed) {
        this.seed = seed;
        this.random = new Random(seed);
    }

    private void call(int call, int... of) {
        if (calls == MOST_CALLS) {
            return;
        }
        calls++;
        String name = Calls.NAMES.get(call);
        String told = "seed " + seed + ", call " + calls + ": " + name + Arrays.toString(of);
        Due.due(told, Calls.make(program, call, of), model.answer(call, of));
    }

    /** A number from the range, now and then at its ends or beyond them. */
    private int pick(int least, int most) {
        int kind = random.nextInt(60);
        if (kind == 0) {
            return least - 1;
        }
        if (kind == 1) {
            return most + 1;
        }
        if (kind == 2) {
            return random.nextInt();
        }
        return kind < 6 ? most : kind < 9 ? least : least + random.nextInt(most - least + 1);
    }

    private int[] arguments(int call) {
        int[] range = RANGES[call];
        int[] of = new int[range.length / 2];
        for (int i = 0; i < of.length; i++) {
            of[i] = pick(range[2 * i], range[2 * i + 1]);
        }
        boolean ofBidder = call == 1 || call == 2 || call == 5 || call == 9 || call == 14;
        if (ofBidder && random.nextInt(10) > 0) {
            of[0] = random.nextInt(Math.max(1, model.answer(21, new int[] {1})));
        }
        if (call == 6 && random.nextInt(4) > 0) {
            of[0] = 1 + random.nextInt(4);
        }
        if (call == 3 && random.nextInt(2) > 0) {
            of[0] = 1 + random.nextInt(20);
        }
        return of;
    }

    private void type(String text) {
        call(24);
        for (int i = 0; i < text.length(); i++) {
            call(23, text.charAt(i));
        }
        for (int what = 0; what <= 2; what++) {
            call(25, what);
        }
        call(26);
        call(21, 16);
    }

    private String orders() {
        String letters = "plcmbuncccbbuul";
        StringBuilder text = new StringBuilder();
        int many = random.nextInt(9);
        for (int i = 0; i < many; i++) {
            char letter = letters.charAt(random.nextInt(letters.length()));
            text.append(letter);
            int numbers = letter == 'p' ? 4 : letter == 'l' || letter == 'm' ? 2
                : letter == 'u' || letter == 'n' ? 0 : 1;
            for (int k = 0; k < numbers; k++) {
                text.append(k > 0 ? "," : "").append(1 + random.nextInt(k == 2 ? 300 : 5));
            }
            text.append(';');
        }
        if (random.nextInt(3) == 0 && text.length() > 0) {
            spoil(text);
        }
        return text.toString();
    }

    private void spoil(StringBuilder text) {
        int where = random.nextInt(text.length());
        String signs = "0123456789,;plcmbunx :/";
        switch (random.nextInt(4)) {
            case 0:
                text.deleteCharAt(where);
                break;
            case 1:
                text.setLength(where);
                break;
            case 2:
                text.setCharAt(where, signs.charAt(random.nextInt(signs.length())));
                break;
            default:
                text.insert(where, signs.charAt(random.nextInt(signs.length())));
                break;
        }
    }

    private void tellAll() {
        for (int what = 0; what <= 23; what++) {
            call(21, what);
        }
        for (int what = 0; what <= 8; what++) {
            call(11, what);
        }
        for (int number = 0; number < model.answer(21, new int[] {1}); number++) {
            for (int what = 0; what <= 10; what++) {
                call(9, number, what);
            }
            call(14, number);
        }
        for (int ago = 0; ago <= 8; ago++) {
            for (int what = 0; what <= 4; what++) {
                call(13, ago, what);
            }
            call(12, ago, ago % 2);
        }
        for (int what = 0; what <= 3; what++) {
            call(15, 7, what);
        }
        for (int call = 16; call <= 20; call++) {
            call(call, arguments(call));
        }
    }

    /** All sit close to one another, and cough, so that there are many bids. */
    private void begin() {
        int bidders = random.nextInt(13);
        for (int i = 0; i < bidders; i++) {
            int purse = random.nextInt(3) == 0 ? random.nextInt(60) : random.nextInt(1000);
            call(0, i / 5, (i * 3) % 8, purse, 1 + random.nextInt(9));
            if (random.nextInt(2) == 0) {
                call(1, i, random.nextInt(6));
            }
        }
    }

    private int weighed() {
        int sum = 0;
        for (int weight : PLAIN) {
            sum += weight;
        }
        int rest = random.nextInt(sum);
        int call = 0;
        while (rest >= PLAIN[call]) {
            rest -= PLAIN[call];
            call++;
        }
        return call;
    }

    private void run() {
        if (random.nextInt(8) > 0) {
            begin();
        }
        while (calls < MOST_CALLS) {
            int kind = random.nextInt(400);
            if (kind == 0) {
                tellAll();
            } else if (kind < 4) {
                type(orders());
            } else if (kind == 5) {
                call(22);
                call(22);
            } else {
                int call = weighed();
                call(call, arguments(call));
            }
        }
    }

    /** So many beats and nights that their limits are met. */
    private void runLong() {
        begin();
        type("b50;b50;b50;b50;b50;b50;b50;b50;b50;b50;b50;b50;b50;b50;b50;");
        for (int i = 0; i < 12; i++) {
            call(26);
        }
        type("n;n;n;n;n;n;n;n;n;n;n;n;n;n;n;n;n;n;n;n;n;n;n;n;n;n;n;n;n;n;");
        for (int i = 0; i < 32; i++) {
            call(26);
        }
        run();
    }

    /** So many lots by plays that all that is kept of lots is used again. */
    private void runPlays() {
        begin();
        call(8, 1, 1 + random.nextInt(3));
        type("l4,1;u;c0;c1;c0;b1;c2;b50;l5,2;u;c1;b50;l6,3;u;b1;c3;b50;");
        for (int i = 0; i < 24; i++) {
            call(26);
            call(random.nextInt(2) == 0 ? 7 : 22);
            call(3, 1 + random.nextInt(9), 1 + random.nextInt(3));
            call(4);
            for (int what = 0; what <= 8; what++) {
                call(11, what);
            }
            call(6, 50);
            call(13, 0, random.nextInt(5));
        }
        run();
    }

    public static void main(String[] args) {
        for (int seed = 0; seed < 3000; seed++) {
            new RandomRunsTest(seed).run();
        }
        for (int seed = 3000; seed < 3200; seed++) {
            new RandomRunsTest(seed).runLong();
        }
        for (int seed = 3200; seed < 3600; seed++) {
            new RandomRunsTest(seed).runPlays();
        }
        Due.end("RandomRunsTest");
    }
}
