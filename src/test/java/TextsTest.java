/** Promises 25 to 28: texts, their faults, and what they do. */
public final class TextsTest {
    private static final int INVALID = CoughBids.INVALID_ARGUMENT;
    private static final int NOT_POSSIBLE = CoughBids.NOT_POSSIBLE;
    private static final int LIMIT = CoughBids.LIMIT_REACHED;
    private static final int NOT_FOUND = CoughBids.NOT_FOUND;

    private TextsTest() {
    }

    private static void due(String call, int got, int want) {
        Due.due(call, got, want);
    }

    private static void fault(CoughBids x, String text, int position, int reason, int cause) {
        Due.retype(x, text);
        due("position of the fault of " + text, x.fault(0), position);
        due("reason of the fault of " + text, x.fault(1), reason);
        due("cause of the fault of " + text, x.fault(2), cause);
        int states = x.count(16);
        due("play of " + text, x.play(), NOT_POSSIBLE);
        due("states behind " + text, x.count(16), states);
        due("the text stays: " + text, x.count(17), text.length());
    }

    private static void noFault(CoughBids x, String text, int orders) {
        Due.retype(x, text);
        for (int what = 0; what <= 2; what++) {
            due("no fault of " + text, x.fault(what), NOT_FOUND);
        }
        due("play of " + text, x.play(), orders);
        x.undo();
    }

    private static void promise25Type() {
        CoughBids x = new CoughBids();
        int[] wrong = {31, 127, 0, -1, 65536 + 98, Integer.MIN_VALUE, Integer.MAX_VALUE};
        for (int character : wrong) {
            due("type(" + character + ")", x.type(character), INVALID);
        }
        due("type(32)", x.type(32), 1);
        due("type(126)", x.type(126), 2);
        for (int i = 3; i <= 60; i++) {
            due("type", x.type(59), i);
        }
        due("the 61st", x.type(59), LIMIT);
        due("the 61st out of range", x.type(31), INVALID);
        due("count(17)", x.count(17), 60);
        due("no change", x.count(16), 0);
    }

    private static void promise26ClearText() {
        CoughBids x = new CoughBids();
        due("clearText of nothing", x.clearText(), 0);
        Due.type(x, "x;");
        due("clearText", x.clearText(), 2);
        due("count(17)", x.count(17), 0);
        due("no fault is left", x.fault(0), NOT_FOUND);
        due("clearText again", x.clearText(), 0);
        due("no change", x.count(16), 0);
    }

    private static void promise27Form() {
        CoughBids x = new CoughBids();
        x.bidder(0, 0, 10, 5);
        fault(x, ";", 0, 1, 0);
        fault(x, " n;", 0, 1, 0);
        fault(x, "N;", 0, 1, 0);
        fault(x, "x", 0, 1, 0);
        fault(x, "n", 0, 1, 1);
        fault(x, "n n;", 0, 1, 1);
        fault(x, "n;n", 2, 1, 1);
        fault(x, "n;;", 2, 1, 0);
        fault(x, "u1;", 0, 1, 1);
        fault(x, "b", 0, 1, 1);
        fault(x, "b;", 0, 1, 1);
        fault(x, "b1", 0, 1, 2);
        fault(x, "b1,1;", 0, 1, 2);
        fault(x, "b-1;", 0, 1, 1);
        fault(x, "b1 ;", 0, 1, 2);
        fault(x, "b0001;", 0, 1, 4);
        fault(x, "b1234", 0, 1, 4);
        fault(x, "c;", 0, 1, 1);
        fault(x, "c0", 0, 1, 2);
        fault(x, "l1;", 0, 1, 2);
        fault(x, "l1", 0, 1, 2);
        fault(x, "l1,", 0, 1, 3);
        fault(x, "l1,;", 0, 1, 3);
        fault(x, "l1,2", 0, 1, 4);
        fault(x, "l1,2,3;", 0, 1, 4);
        fault(x, "l,2;", 0, 1, 1);
        fault(x, "m0;", 0, 1, 2);
        fault(x, "m0,1,", 0, 1, 4);
        fault(x, "p", 0, 1, 1);
        fault(x, "p1,2,3;", 0, 1, 6);
        fault(x, "p1,2,3,4", 0, 1, 8);
        fault(x, "p1,2,3,4,5;", 0, 1, 8);
        fault(x, "p111,222,333,4444;", 0, 1, 16);
        fault(x, "b1;b2;c/;", 6, 1, 1);
        fault(x, "b1;b2;c:;", 6, 1, 1);
        fault(x, "n;s1,1;", 2, 1, 0);
        due("nothing was done", x.count(0) + x.count(14), 0);
    }

    private static void promise27Orders() {
        CoughBids x = new CoughBids();
        fault(x, "u;", 0, 2, NOT_POSSIBLE);
        fault(x, "c0;", 0, 2, INVALID);
        fault(x, "m0,0;", 0, 2, INVALID);
        fault(x, "b0;", 0, 2, INVALID);
        fault(x, "b051;", 0, 2, INVALID);
        fault(x, "l0,1;", 0, 2, INVALID);
        fault(x, "l1,021;", 0, 2, INVALID);
        fault(x, "p6,0,0,1;", 0, 2, INVALID);
        fault(x, "p0,0,1,1;p0,0,1,1;", 9, 2, NOT_POSSIBLE);
        fault(x, "p0,0,1,1;m0,5;m0,6;", 14, 2, INVALID);
        fault(x, "p0,0,1,1;c0;c1;", 12, 2, INVALID);
        fault(x, "l1,1;u;n;", 7, 2, NOT_POSSIBLE);
        fault(x, "l1,1;u;u;", 7, 2, NOT_POSSIBLE);
        fault(x, "l1,1;l1,1;l1,1;l1,1;l1,1;l1,1;l1,1;l1,1;l1,1;", 40, 2, LIMIT);
        fault(x, "u;x", 0, 2, NOT_POSSIBLE);
        fault(x, "n;u;x", 2, 2, NOT_POSSIBLE);
        fault(x, "n;x;u;", 2, 1, 0);
        due("nothing was done", x.count(1) + x.count(4) + x.count(14), 0);
        for (int i = 0; i < 12; i++) {
            x.bidder(i / 8, i % 8, 1, 1);
        }
        fault(x, "n;p5,5,5,5;", 2, 2, LIMIT);
        Due.retype(x, "u;");
        due("fault(3)", x.fault(3), INVALID);
        due("fault(-1)", x.fault(-1), INVALID);
        due("fault far", x.fault(Integer.MAX_VALUE), INVALID);
        due("fault before", x.fault(Integer.MIN_VALUE), INVALID);
        x.lot(1, 1);
        due("the fault is told of the present state", x.fault(0), NOT_FOUND);
        x.clearText();
        due("fault(3) of nothing", x.fault(3), INVALID);
        due("fault of nothing", x.fault(0), NOT_FOUND);
    }

    private static void promise27NoFault() {
        CoughBids x = new CoughBids();
        noFault(x, "", 0);
        noFault(x, "n;", 1);
        noFault(x, "b001;b050;", 2);
        noFault(x, "p000,007,999,009;m0,005;c000;", 3);
        noFault(x, "l099,20;u;b3;n;", 4);
        noFault(x, "n;n;n;n;n;n;n;n;n;n;n;n;n;n;n;n;n;n;n;n;n;n;n;n;n;n;n;n;n;n;", 30);
    }

    private static void promise28Play() {
        CoughBids x = new CoughBids();
        due("play of nothing", x.play(), 0);
        due("is a change", x.undo(), 0);
        Due.type(x, "p1,2,200,8;p2,5,90,9;l10,5;l20,1;u;c0;c1;m1,3;b4;n;b5;");
        due("play", x.play(), 11);
        int[] first = {1, 2, 200, 8, 0, 0, 107, 1, 1, 0, 0};
        int[] second = {2, 5, 75, 9, 0, 3, 104, 1, 1, 1, 15};
        for (int what = 0; what <= 10; what++) {
            due("bidderOf(0, " + what + ")", x.bidderOf(0, what), first[what]);
            due("bidderOf(1, " + what + ")", x.bidderOf(1, what), second[what]);
        }
        due("beats", x.count(0), 9);
        due("nights", x.count(14), 1);
        due("waiting", x.waiting(0, 0), 20);
        due("the text stays", x.count(17), 54);
        due("one change", x.count(16), 1);
        due("it can't be done twice", x.play(), NOT_POSSIBLE);
        due("undo", x.undo(), 0);
        due("all is undone", x.count(1) + x.count(0) + x.count(4), 0);
        due("it can be done again", x.play(), 11);
    }

    public static void main(String[] args) {
        promise25Type();
        promise26ClearText();
        promise27Form();
        promise27Orders();
        promise27NoFault();
        promise28Play();
        Due.end("TextsTest");
    }
}
