/** Promises 1 to 4, 10 to 12 and 20: a new object, bidders and what is told of them, settings. */
public final class BiddersTest {
    private static final int INVALID = CoughBids.INVALID_ARGUMENT;
    private static final int[] EXTREMES = {Integer.MIN_VALUE, -1, Integer.MAX_VALUE};

    private BiddersTest() {
    }

    private static void due(String call, int got, int want) {
        Due.due(call, got, want);
    }

    private static void constants() {
        due("INVALID_ARGUMENT", CoughBids.INVALID_ARGUMENT, -1000001);
        due("NOT_POSSIBLE", CoughBids.NOT_POSSIBLE, -1000002);
        due("LIMIT_REACHED", CoughBids.LIMIT_REACHED, -1000003);
        due("NOT_FOUND", CoughBids.NOT_FOUND, -1000004);
    }

    private static void promise1NewObject() {
        CoughBids x = new CoughBids();
        for (int what = 0; what <= 18; what++) {
            due("new: count(" + what + ")", x.count(what), 0);
        }
        for (int what = 20; what <= 22; what++) {
            due("new: count(" + what + ")", x.count(what), 3);
        }
        due("new: at", x.at(0, 0), CoughBids.NOT_FOUND);
        due("new: up", x.up(0), CoughBids.NOT_POSSIBLE);
        due("new: waiting", x.waiting(0, 0), CoughBids.NOT_FOUND);
        due("new: book", x.book(0, 0), CoughBids.NOT_FOUND);
        due("new: clearText", x.clearText(), 0);
        due("new: undo", x.undo(), CoughBids.NOT_POSSIBLE);
        CoughBids other = new CoughBids();
        other.bidder(1, 1, 1, 1);
        due("objects stand alone", x.count(1), 0);
    }

    private static void promise2Bidder() {
        CoughBids x = new CoughBids();
        due("first bidder", x.bidder(5, 7, 999, 9), 0);
        due("second bidder", x.bidder(0, 0, 0, 1), 1);
        int[][] wrong = {{6, 1, 1, 1}, {-1, 1, 1, 1}, {1, 8, 1, 1}, {1, -1, 1, 1}, {1, 1, 1000, 1},
            {1, 1, -1, 1}, {1, 1, 1, 0}, {1, 1, 1, 10}, {6, 7, 1, 1}};
        for (int[] of : wrong) {
            due("bidder out of range", x.bidder(of[0], of[1], of[2], of[3]), INVALID);
        }
        for (int extreme : EXTREMES) {
            due("bidder extreme row", x.bidder(extreme, 1, 1, 1), INVALID);
            due("bidder extreme seat", x.bidder(1, extreme, 1, 1), INVALID);
            due("bidder extreme purse", x.bidder(1, 1, extreme, 1), INVALID);
            due("bidder extreme strength", x.bidder(1, 1, 1, extreme), INVALID);
        }
        due("a taken seat", x.bidder(5, 7, 1, 1), CoughBids.NOT_POSSIBLE);
        due("a taken seat and a wrong purse", x.bidder(5, 7, 1000, 1), INVALID);
        due("errors make nobody", x.count(1), 2);
        due("errors are no changes", x.count(16), 2);
        for (int i = 2; i < 12; i++) {
            due("bidder " + i, x.bidder(1 + i / 8, i % 8, 10, 5), i);
        }
        due("the 13th", x.bidder(4, 4, 1, 1), CoughBids.LIMIT_REACHED);
        due("the 13th on a taken seat", x.bidder(5, 7, 1, 1), CoughBids.NOT_POSSIBLE);
        due("the 13th out of range", x.bidder(4, 4, 1, 0), INVALID);
        due("still 12", x.count(1), 12);
    }

    /** A bidder comes anew in the place of one who was undone. */
    private static void promise2FreshBidders() {
        CoughBids x = new CoughBids();
        int[] fresh = {0, 0, 500, 5, 0, 0, 105, 0, 0, 0, 0};
        Due.type(x, "p0,0,9,5;m0,1;l5,1;u;c0;b4;");
        for (int i = 0; i < 20; i++) {
            due("all at once", x.play(), 6);
            x.catches(0, 4);
            x.undo();
            x.undo();
            if (i % 2 == 0) {
                x.night();
            }
            due("comes anew", x.bidder(0, 0, 500, 5), 0);
            for (int what = 0; what <= 10; what++) {
                due("anew: bidderOf(0, " + what + ")", x.bidderOf(0, what), fresh[what]);
            }
            x.catches(0, 3);
            x.undo();
            due("purses", x.count(9), 0);
            x.undo();
            due("nobody is left", x.count(1), 0);
            if (i % 2 == 0) {
                x.undo();
            }
        }
    }

    private static void promise3Catches() {
        CoughBids x = new CoughBids();
        due("catches without bidders", x.catches(0, 1), INVALID);
        x.bidder(0, 0, 1, 1);
        due("catches", x.catches(0, 5), 0);
        due("catches again", x.catches(0, 2), 5);
        due("the same", x.catches(0, 2), 2);
        due("it is a change all the same", x.count(16), 4);
        due("gets well", x.catches(0, 0), 2);
        due("cold", x.bidderOf(0, 4), 0);
        due("cold 6", x.catches(0, 6), INVALID);
        due("cold -1", x.catches(0, -1), INVALID);
        due("bidder -1", x.catches(-1, 0), INVALID);
        due("bidder 1", x.catches(1, 0), INVALID);
        for (int extreme : EXTREMES) {
            due("catches extreme bidder", x.catches(extreme, 1), INVALID);
            due("catches extreme cold", x.catches(0, extreme), INVALID);
        }
        due("errors change no cold", x.bidderOf(0, 4), 0);
    }

    private static void promise4Muffle() {
        CoughBids x = new CoughBids();
        due("muffle without bidders", x.muffle(0, 1), INVALID);
        x.bidder(0, 0, 1, 1);
        x.bidder(0, 1, 1, 1);
        due("muffle", x.muffle(1, 5), 0);
        due("muffle again", x.muffle(1, 3), 5);
        due("muffler", x.bidderOf(1, 5), 3);
        due("muffler of the other", x.bidderOf(0, 5), 0);
        due("muffler off", x.muffle(1, 0), 3);
        due("muffler 6", x.muffle(1, 6), INVALID);
        due("muffler -1", x.muffle(1, -1), INVALID);
        due("bidder 2", x.muffle(2, 0), INVALID);
        for (int extreme : EXTREMES) {
            due("muffle extreme bidder", x.muffle(extreme, 1), INVALID);
            due("muffle extreme muffler", x.muffle(0, extreme), INVALID);
        }
        due("cold of a muffled one", x.bidderOf(1, 4), 0);
    }

    private static void promise10Set() {
        CoughBids x = new CoughBids();
        for (int what = 0; what <= 2; what++) {
            due("set(" + what + ", 1)", x.set(what, 1), 3);
            due("set(" + what + ", 9)", x.set(what, 9), 1);
            due("set(" + what + ", n)", x.set(what, 4 + what), 9);
            due("set(" + what + ", 0)", x.set(what, 0), INVALID);
            due("set(" + what + ", 10)", x.set(what, 10), INVALID);
        }
        for (int what = 0; what <= 2; what++) {
            due("setting " + what, x.count(20 + what), 4 + what);
        }
        due("set(3)", x.set(3, 1), INVALID);
        due("set(-1)", x.set(-1, 1), INVALID);
        for (int extreme : EXTREMES) {
            due("set extreme what", x.set(extreme, 1), INVALID);
            due("set extreme value", x.set(0, extreme), INVALID);
        }
        x.undo();
        due("set is a change", x.count(22), 9);
    }

    private static void promise11BidderOf() {
        CoughBids x = new CoughBids();
        due("bidderOf without bidders", x.bidderOf(0, 0), INVALID);
        x.bidder(5, 7, 0, 1);
        x.bidder(2, 3, 50, 8);
        x.catches(1, 4);
        x.muffle(1, 1);
        x.muffle(0, 5);
        int[] first = {5, 7, 0, 1, 0, 5, 91, 0, 0, 0, 0};
        int[] second = {2, 3, 50, 8, 4, 1, 109, 0, 0, 0, 0};
        for (int what = 0; what <= 10; what++) {
            due("bidderOf(0, " + what + ")", x.bidderOf(0, what), first[what]);
            due("bidderOf(1, " + what + ")", x.bidderOf(1, what), second[what]);
        }
        x.lot(20, 5);
        x.cough(1);
        x.putUp();
        x.cough(1);
        x.cough(1);
        x.catches(1, 0);
        x.beats(4);
        int[] after = {2, 3, 30, 8, 0, 1, 105, 3, 1, 1, 20};
        for (int what = 0; what <= 10; what++) {
            due("after a sale: bidderOf(1, " + what + ")", x.bidderOf(1, what), after[what]);
        }
        x.night();
        for (int what = 0; what <= 10; what++) {
            due("and a night: bidderOf(1, " + what + ")", x.bidderOf(1, what), after[what]);
        }
        due("bidderOf(0, 11)", x.bidderOf(0, 11), INVALID);
        due("bidderOf(0, -1)", x.bidderOf(0, -1), INVALID);
        due("bidderOf(2, 0)", x.bidderOf(2, 0), INVALID);
        for (int extreme : EXTREMES) {
            due("bidderOf extreme bidder", x.bidderOf(extreme, 0), INVALID);
            due("bidderOf extreme what", x.bidderOf(0, extreme), INVALID);
        }
    }

    private static void promise12At() {
        CoughBids x = new CoughBids();
        x.bidder(0, 7, 1, 1);
        x.bidder(5, 0, 1, 1);
        x.bidder(3, 4, 1, 1);
        for (int row = 0; row < 6; row++) {
            for (int seat = 0; seat < 8; seat++) {
                int want = row == 0 && seat == 7 ? 0 : row == 5 && seat == 0 ? 1
                    : row == 3 && seat == 4 ? 2 : CoughBids.NOT_FOUND;
                due("at(" + row + ", " + seat + ")", x.at(row, seat), want);
            }
        }
        due("at(6, 0)", x.at(6, 0), INVALID);
        due("at(0, 8)", x.at(0, 8), INVALID);
        for (int extreme : EXTREMES) {
            due("at extreme row", x.at(extreme, 0), INVALID);
            due("at extreme seat", x.at(0, extreme), INVALID);
        }
    }

    private static void promise20Loudest() {
        CoughBids x = new CoughBids();
        due("loudest without bidders", x.loudest(), CoughBids.NOT_FOUND);
        x.bidder(5, 0, 1, 1);
        x.muffle(0, 5);
        due("loudest, below 0", x.loudest(), 0);
        x.bidder(4, 0, 1, 1);
        x.muffle(1, 5);
        due("loudest of two below 0", x.loudest(), 1);
        x.bidder(0, 0, 1, 4);
        x.bidder(1, 0, 1, 5);
        due("of several the lowest", x.loudest(), 2);
        x.catches(3, 1);
        due("a cold is louder", x.loudest(), 3);
        x.muffle(3, 2);
        due("a muffler is not", x.loudest(), 2);
    }

    public static void main(String[] args) {
        constants();
        promise1NewObject();
        promise2Bidder();
        promise2FreshBidders();
        promise3Catches();
        promise4Muffle();
        promise10Set();
        promise11BidderOf();
        promise12At();
        promise20Loudest();
        Due.end("BiddersTest");
    }
}
