/** Promises 5 to 7 and 13 to 16: lots, coughs, what is told of them, and the book. */
public final class LotsTest {
    private static final int INVALID = CoughBids.INVALID_ARGUMENT;
    private static final int NOT_FOUND = CoughBids.NOT_FOUND;
    private static final int[] EXTREMES = {Integer.MIN_VALUE, -1, Integer.MAX_VALUE};

    private LotsTest() {
    }

    private static void due(String call, int got, int want) {
        Due.due(call, got, want);
    }

    private static void promise5Lot() {
        CoughBids x = new CoughBids();
        int[][] wrong = {{0, 1}, {100, 1}, {1, 0}, {1, 21}};
        for (int[] of : wrong) {
            due("lot out of range", x.lot(of[0], of[1]), INVALID);
        }
        for (int extreme : EXTREMES) {
            due("lot extreme reserve", x.lot(extreme, 1), INVALID);
            due("lot extreme step", x.lot(1, extreme), INVALID);
        }
        due("lot(99, 20)", x.lot(99, 20), 1);
        for (int i = 2; i <= 8; i++) {
            due("lot " + i, x.lot(i, i), i);
        }
        due("the ninth", x.lot(1, 1), CoughBids.LIMIT_REACHED);
        due("the ninth out of range", x.lot(0, 1), INVALID);
        due("came so far", x.count(4), 8);
        x.putUp();
        due("one that is up does not wait", x.lot(1, 1), 8);
        due("came so far", x.count(4), 9);
    }

    private static void promise6PutUp() {
        CoughBids x = new CoughBids();
        due("putUp, none waits", x.putUp(), CoughBids.NOT_POSSIBLE);
        x.lot(7, 2);
        x.lot(8, 3);
        due("putUp", x.putUp(), 7);
        due("count(2)", x.count(2), 1);
        due("count(3)", x.count(3), 1);
        due("one is up", x.putUp(), CoughBids.NOT_POSSIBLE);
        due("no change", x.count(16), 3);
        x.beats(3);
        due("the next", x.putUp(), 8);
        due("its step", x.up(1), 3);
        x.beats(3);
        due("none is left", x.putUp(), CoughBids.NOT_POSSIBLE);
    }

    private static void promise7Cough() {
        CoughBids x = new CoughBids();
        due("cough without bidders", x.cough(0), INVALID);
        x.bidder(0, 0, 30, 3);
        x.bidder(1, 0, 29, 4);
        x.bidder(0, 1, 999, 2);
        for (int extreme : EXTREMES) {
            due("cough extreme bidder", x.cough(extreme), INVALID);
        }
        due("cough(3)", x.cough(3), INVALID);
        due("errors are no coughs", x.count(10), 0);
        due("no lot is up", x.cough(0), 0);
        x.lot(10, 10);
        x.putUp();
        due("not heard", x.cough(2), 0);
        due("just heard", x.cough(0), 10);
        due("by this bidder", x.cough(0), 0);
        due("heard a row behind", x.cough(1), 20);
        due("just enough in the purse", x.cough(0), 30);
        due("too little in the purse", x.cough(1), 0);
        due("coughs", x.count(10), 7);
        due("bids", x.count(11), 3);
        due("coughs of 0", x.bidderOf(0, 7), 4);
        due("bids of 0", x.bidderOf(0, 8), 2);
        due("coughs of 2", x.bidderOf(2, 7), 1);
        due("bids of 2", x.bidderOf(2, 8), 0);
        due("no doubts", x.count(12), 0);
        due("a cough that is no bid is a change", x.count(16), 4);
        x.undo();
        due("undone", x.count(10), 6);
    }

    private static void promise7Doubts() {
        CoughBids x = new CoughBids();
        x.bidder(0, 0, 100, 3);
        x.bidder(0, 1, 100, 3);
        x.catches(0, 3);
        x.catches(1, 4);
        x.lot(10, 1);
        x.lot(20, 1);
        x.putUp();
        due("a cold as strong", x.cough(0), 10);
        due("is no doubt", x.up(4), 0);
        due("a cold that is more", x.cough(1), 11);
        due("is a doubt", x.up(4), 1);
        due("by themselves they are no coughs for a cold", x.up(8), 0);
        x.cough(0);
        x.cough(1);
        due("two doubts", x.up(4), 2);
        due("of all", x.count(12), 2);
        due("fewer doubts by setting", x.set(1, 1), 3);
        due("do not withdraw it by themselves", x.count(3), 1);
        due("nor does a bid without doubt", x.cough(0), 14);
        due("it is up", x.count(3), 1);
        due("the next doubtful bid does", x.cough(1), 15);
        due("it is gone", x.count(3), 0);
        due("withdrawn", x.count(6), 1);
        due("not sold", x.count(5), 0);
        int[] told = {1, 15, 1, 3, 6};
        for (int what = 0; what <= 4; what++) {
            due("book(0, " + what + ")", x.book(0, what), told[what]);
        }
        due("nobody pays", x.bidderOf(1, 2), 100);
        x.putUp();
        due("the next lot has no doubts", x.up(4), 0);
        due("and no bid", x.up(2), NOT_FOUND);
        due("so this bidder bids", x.cough(1), 20);
        due("one doubt is enough", x.book(0, 0), 1);
        due("cough of a withdrawn one", x.cough(0), 0);
        due("doubts in all", x.count(12), 4);
    }

    private static void promise13Up() {
        CoughBids x = new CoughBids();
        due("up(9), none up", x.up(9), INVALID);
        due("up(0), none up", x.up(0), CoughBids.NOT_POSSIBLE);
        due("up(8), none up", x.up(8), CoughBids.NOT_POSSIBLE);
        for (int extreme : EXTREMES) {
            due("up extreme, none up", x.up(extreme), INVALID);
        }
        x.bidder(0, 0, 100, 5);
        x.bidder(0, 1, 100, 2);
        x.catches(1, 5);
        x.lot(10, 4);
        x.putUp();
        int[] fresh = {10, 4, NOT_FOUND, NOT_FOUND, 0, 0, 10, 0, 0};
        for (int what = 0; what <= 8; what++) {
            due("fresh: up(" + what + ")", x.up(what), fresh[what]);
        }
        x.cough(0);
        int[] bid = {10, 4, 10, 0, 0, 0, 14, 1, 0};
        for (int what = 0; what <= 8; what++) {
            due("bid: up(" + what + ")", x.up(what), bid[what]);
        }
        x.beats(1);
        x.beats(1);
        int[] cold = {10, 4, 14, 1, 1, 0, 18, 2, 1};
        for (int what = 0; what <= 8; what++) {
            due("cold: up(" + what + ")", x.up(what), cold[what]);
        }
        x.beats(1);
        due("a hush", x.up(5), 1);
        x.cough(0);
        due("the latest bid is no cough for a cold", x.up(8), 0);
        for (int extreme : EXTREMES) {
            due("up extreme", x.up(extreme), INVALID);
        }
    }

    /** Lots come anew, whatever the ones before them went through, undone changes among them. */
    private static void promise13FreshLots() {
        CoughBids x = new CoughBids();
        x.bidder(0, 0, 999, 2);
        x.bidder(0, 2, 999, 9);
        x.catches(0, 5);
        x.set(1, 9);
        int[] fresh = {3, 2, NOT_FOUND, NOT_FOUND, 0, 0, 3, 0, 0};
        for (int i = 0; i < 24; i++) {
            x.lot(3, 2);
            x.putUp();
            for (int what = 0; what <= 8; what++) {
                due("fresh: up(" + what + ")", x.up(what), fresh[what]);
            }
            x.beats(1);
            due("no bid came ahead of it", x.up(5), x.up(7) == 0 ? 1 : 0);
            x.cough(1);
            x.cough(0);
            x.beats(9);
            if (i % 2 == 0) {
                x.undo();
                x.undo();
                x.undo();
                x.beats(50);
            }
        }
    }

    private static void promise14Waiting() {
        CoughBids x = new CoughBids();
        x.lot(5, 6);
        x.lot(7, 8);
        x.lot(9, 10);
        int[][] told = {{5, 6}, {7, 8}, {9, 10}};
        for (int place = 0; place < 3; place++) {
            due("waiting reserve", x.waiting(place, 0), told[place][0]);
            due("waiting step", x.waiting(place, 1), told[place][1]);
        }
        due("waiting(3, 0)", x.waiting(3, 0), NOT_FOUND);
        due("waiting(0, 2)", x.waiting(0, 2), INVALID);
        due("waiting(3, 2)", x.waiting(3, 2), INVALID);
        due("waiting(0, -1)", x.waiting(0, -1), INVALID);
        due("waiting(-1, 0)", x.waiting(-1, 0), INVALID);
        due("waiting far", x.waiting(Integer.MAX_VALUE, 1), NOT_FOUND);
        due("waiting before", x.waiting(Integer.MIN_VALUE, 1), INVALID);
        x.putUp();
        due("the next moves up", x.waiting(0, 0), 7);
        due("the last moves up", x.waiting(1, 1), 10);
        due("one less", x.waiting(2, 0), NOT_FOUND);
        for (int i = 0; i < 6; i++) {
            x.lot(20 + i, 1);
        }
        due("the eighth", x.waiting(7, 0), 25);
        due("the ninth", x.waiting(8, 0), NOT_FOUND);
    }

    private static void promise15Book() {
        CoughBids x = new CoughBids();
        due("book(0, 5)", x.book(0, 5), INVALID);
        due("book(0, -1)", x.book(0, -1), INVALID);
        due("book(-1, 0)", x.book(-1, 0), INVALID);
        due("book before", x.book(Integer.MIN_VALUE, 0), INVALID);
        due("book(0, 0)", x.book(0, 0), NOT_FOUND);
        x.bidder(0, 0, 999, 9);
        x.set(2, 1);
        x.set(1, 1);
        for (int i = 1; i <= 9; i++) {
            x.lot(i, 1);
            x.putUp();
            if (i % 2 == 1) {
                x.cough(0);
            }
            x.beats(2);
            due("lots in the book", x.count(15), Math.min(i, 8));
        }
        for (int ago = 0; ago < 8; ago++) {
            boolean sold = ago % 2 == 0;
            due("book(" + ago + ", 0)", x.book(ago, 0), sold ? 0 : 2);
            due("book(" + ago + ", 1)", x.book(ago, 1), sold ? 9 - ago : 0);
            due("book(" + ago + ", 2)", x.book(ago, 2), sold ? 0 : NOT_FOUND);
            due("book(" + ago + ", 3)", x.book(ago, 3), 0);
            due("book(" + ago + ", 4)", x.book(ago, 4), sold ? 1 : 0);
        }
        due("only 8 are kept", x.book(8, 0), NOT_FOUND);
        due("book far", x.book(Integer.MAX_VALUE, 2), NOT_FOUND);
        due("sold", x.count(5), 5);
        due("without a bid", x.count(7), 4);
    }

    private static void promise16Why() {
        CoughBids x = new CoughBids();
        due("why without bidders", x.why(0), INVALID);
        x.bidder(0, 0, 9, 3);
        x.bidder(2, 1, 50, 5);
        x.bidder(3, 2, 0, 5);
        for (int extreme : EXTREMES) {
            due("why extreme", x.why(extreme), INVALID);
        }
        due("why(3)", x.why(3), INVALID);
        due("no lot ahead of not heard", x.why(2), 1);
        x.lot(9, 1);
        x.putUp();
        due("a bid", x.why(0), 0);
        due("a bid from behind", x.why(1), 0);
        due("not heard ahead of the purse", x.why(2), 2);
        x.cough(0);
        due("by this bidder ahead of the purse", x.why(0), 3);
        x.set(0, 4);
        due("not heard ahead of by this bidder", x.why(0), 2);
        due("not heard now", x.why(1), 2);
        x.catches(1, 1);
        due("heard with a cold", x.why(1), 0);
        x.muffle(1, 1);
        due("not heard with a muffler", x.why(1), 2);
        x.muffle(1, 0);
        x.cough(1);
        x.set(0, 3);
        due("the purse", x.why(0), 4);
        due("it tells, and changes nothing", x.count(10), 2);
        x.beats(9);
        due("none is up", x.why(0), 1);
    }

    public static void main(String[] args) {
        promise5Lot();
        promise6PutUp();
        promise7Cough();
        promise7Doubts();
        promise13Up();
        promise13FreshLots();
        promise14Waiting();
        promise15Book();
        promise16Why();
        Due.end("LotsTest");
    }
}
