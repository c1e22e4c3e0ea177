import java.util.function.IntUnaryOperator;

/** Compares answers with those that are due, and tells at the end whether one was wrong. */
final class Due {
    private static final int[] FAR = {Integer.MIN_VALUE, Integer.MIN_VALUE + 1, -1 << 16, -256, 256,
        1 << 16, Integer.MAX_VALUE - 1, Integer.MAX_VALUE};

    private static int asked = 0;
    private static int wrong = 0;
    private static String sentence = "";

    private Due() {
    }

    /** What the document says of the answers that follow: it is told with each that is wrong. */
    static void sentence(String words) {
        sentence = "\"" + words + "\": ";
    }

    static void due(String call, int got, int want) {
        asked++;
        if (got != want) {
            wrong++;
            System.out.println(sentence + call + " answered " + got + ", due is " + want);
        }
    }

    static void end(String test) {
        System.out.println(test + ": " + asked + " answers, " + wrong + " wrong");
        if (wrong != 0 || asked == 0) {
            System.exit(1);
        }
    }

    /** An argument beyond its range, by 1 and by far, also by as much as fewer bits would lose. */
    static void outside(String call, int least, int most, IntUnaryOperator answer) {
        outside(call + " too small", least - 1, answer);
        outside(call + " too large", most + 1, answer);
        for (int far : FAR) {
            for (int near = least; near <= most; near += Math.max(1, most - least)) {
                int argument = far + near;
                if (argument < least || argument > most) {
                    outside(call + " far off", argument, answer);
                }
            }
        }
    }

    private static void outside(String call, int argument, IntUnaryOperator answer) {
        due(call + ", " + argument, answer.applyAsInt(argument), CoughBids.INVALID_ARGUMENT);
    }

    /** Types the text behind what is there. */
    static void type(CoughBids x, String text) {
        for (int i = 0; i < text.length(); i++) {
            x.type(text.charAt(i));
        }
    }

    /** Types the text instead of what is there. */
    static void retype(CoughBids x, String text) {
        x.clearText();
        type(x, text);
    }

    /** Types the text instead of what is there, and plays it, which must be possible. */
    static void play(CoughBids x, String text) {
        retype(x, text);
        if (x.play() < 0) {
            due("play of " + text, x.fault(0), CoughBids.NOT_FOUND);
        }
    }
}
