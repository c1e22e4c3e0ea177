/** Compares answers with those that are due, and tells at the end whether one was wrong. */
final class Due {
    private static int asked = 0;
    private static int wrong = 0;

    private Due() {
    }

    static void due(String call, int got, int want) {
        asked++;
        if (got != want) {
            wrong++;
            System.out.println(call + " answered " + got + ", due is " + want);
        }
    }

    static void end(String test) {
        System.out.println(test + ": " + asked + " answers, " + wrong + " wrong");
        if (wrong != 0 || asked == 0) {
            System.exit(1);
        }
    }

    /** Types the text behind what is there. */
    static void type(CoughBids x, String text) {
        for (int i = 0; i < text.length(); i++) {
            x.type(text.charAt(i));
        }
    }

    /** Types the text instead of what is there. */
    static void retype(CoughBids x, String text) {
        x.clearText();
        type(x, text);
    }

    /** Types the text instead of what is there, and plays it, which must be possible. */
    static void play(CoughBids x, String text) {
        retype(x, text);
        if (x.play() < 0) {
            due("play of " + text, x.fault(0), CoughBids.NOT_FOUND);
        }
    }
}
