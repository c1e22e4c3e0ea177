/** Promises 22 to 24: the mean, numbers, and what is undone. */
public final class SumsTest {
    private static final int INVALID = CoughBids.INVALID_ARGUMENT;

    private SumsTest() {
    }

    private static void due(String call, int got, int want) {
        Due.due(call, got, want);
    }

    /** Sells a lot to the bidder for its reserve. */
    private static void sell(CoughBids x, int bidder, int reserve) {
        x.lot(reserve, 1);
        x.putUp();
        x.cough(bidder);
        x.beats(4);
    }

    private static int bits(int coins, int lots) {
        return Float.floatToIntBits((float) coins / (float) lots);
    }

    private static void promise22Mean() {
        CoughBids x = new CoughBids();
        due("none came", x.mean(), CoughBids.NOT_FOUND);
        x.bidder(0, 0, 999, 9);
        x.bidder(0, 1, 999, 9);
        x.lot(1, 1);
        x.putUp();
        x.beats(3);
        due("none was sold", x.mean(), CoughBids.NOT_FOUND);
        int coins = 0;
        for (int lots = 1; lots <= 80; lots++) {
            int reserve = 1 + (lots * 37) % 23;
            sell(x, lots % 2, reserve);
            coins += reserve;
            due("mean of " + coins + " by " + lots, x.mean(), bits(coins, lots));
        }
        due("paid", x.count(8), coins);
    }

    /** Every pair of coins and lots that one lot for much and some for 1 coin can bring. */
    private static void promise22ManyMeans() {
        for (int dear = 1; dear <= 999; dear += 7) {
            CoughBids x = new CoughBids();
            x.bidder(0, 0, 999, 9);
            x.bidder(0, 1, 999, 9);
            x.bidder(0, 2, 999, 9);
            int lots = 0;
            int coins = 0;
            for (int more = dear; more > 0 && lots < 40; more -= Math.min(more, 99)) {
                sell(x, 0, Math.min(more, 99));
                coins += Math.min(more, 99);
                lots++;
                due("mean", x.mean(), bits(coins, lots));
            }
            for (int i = 0; i < 20; i++) {
                sell(x, 1 + i % 2, 1);
                coins++;
                lots++;
                due("mean", x.mean(), bits(coins, lots));
            }
        }
    }

    private static void promise23Count() {
        CoughBids x = new CoughBids();
        x.bidder(0, 0, 500, 5);
        x.bidder(0, 1, 400, 4);
        x.bidder(1, 0, 300, 3);
        x.bidder(1, 2, 200, 2);
        x.set(0, 2);
        x.set(1, 2);
        x.set(2, 1);
        sell(x, 0, 50);
        sell(x, 1, 60);
        sell(x, 0, 7);
        x.lot(3, 3);
        x.putUp();
        x.beats(1);
        x.catches(3, 5);
        x.catches(1, 5);
        x.lot(4, 4);
        x.putUp();
        x.cough(3);
        x.cough(1);
        x.catches(1, 1);
        x.night();
        x.night();
        x.catches(2, 2);
        x.lot(5, 5);
        x.putUp();
        x.catches(3, 5);
        x.beats(1);
        x.catches(3, 4);
        x.beats(4);
        x.lot(6, 6);
        x.lot(7, 7);
        x.lot(8, 8);
        x.putUp();
        Due.type(x, "hello");
        int[] want = {18, 4, 2, 1, 9, 3, 1, 1, 117, 117, x.bidderOf(0, 7) + x.bidderOf(1, 7)
            + x.bidderOf(2, 7) + x.bidderOf(3, 7), x.bidderOf(0, 8) + x.bidderOf(1, 8)
            + x.bidderOf(2, 8) + x.bidderOf(3, 8), x.book(1, 3) + x.book(0, 3), 12, 2, 6, 4, 5, 1,
            INVALID, 2, 2, 1, INVALID};
        for (int what = 0; what < want.length; what++) {
            due("count(" + what + ")", x.count(what), want[what]);
        }
        due("count(-1)", x.count(-1), INVALID);
        due("count far", x.count(Integer.MAX_VALUE), INVALID);
        due("count before", x.count(Integer.MIN_VALUE), INVALID);
    }

    private static void promise24Undo() {
        CoughBids x = new CoughBids();
        due("undo of nothing", x.undo(), CoughBids.NOT_POSSIBLE);
        for (int seat = 0; seat < 8; seat++) {
            x.bidder(0, seat, 10, 5);
            due("states", x.count(16), Math.min(seat + 1, 4));
        }
        due("undo", x.undo(), 3);
        due("bidders", x.count(1), 7);
        due("undo", x.undo(), 2);
        due("undo", x.undo(), 1);
        due("undo", x.undo(), 0);
        due("bidders", x.count(1), 4);
        due("only 4 are kept", x.undo(), CoughBids.NOT_POSSIBLE);
        due("bidders", x.count(1), 4);
        due("a seat is free again", x.bidder(0, 4, 20, 6), 4);
        due("purse", x.bidderOf(4, 2), 20);
    }

    /** Each change records one state, which undo brings back; no other call records one. */
    private static void promise24EachChange() {
        CoughBids x = new CoughBids();
        x.bidder(0, 0, 100, 5);
        x.undo();
        due("bidder", x.count(1), 0);
        x.bidder(0, 0, 100, 5);
        x.catches(0, 3);
        x.undo();
        due("catches", x.bidderOf(0, 4), 0);
        x.muffle(0, 3);
        x.undo();
        due("muffle", x.bidderOf(0, 5), 0);
        x.lot(10, 5);
        x.undo();
        due("lot", x.count(2) + x.count(4), 0);
        x.lot(10, 5);
        x.putUp();
        x.undo();
        due("putUp", x.count(3), 0);
        due("it waits again", x.waiting(0, 1), 5);
        x.putUp();
        x.cough(0);
        x.undo();
        due("cough", x.count(10) + x.count(11) + x.bidderOf(0, 7) + x.up(7), 0);
        x.cough(0);
        x.beats(9);
        due("sold", x.count(5), 1);
        x.undo();
        due("beats", x.count(0) + x.count(5) + x.count(8) + x.count(15), 0);
        due("it is up again", x.up(2), 10);
        due("the purse is full again", x.bidderOf(0, 2), 100);
        due("a bid since the beat before, again", x.goneIn(), 4);
        x.beats(9);
        x.night();
        x.undo();
        due("night", x.count(14), 0);
        x.set(2, 7);
        x.undo();
        due("set", x.count(22), 3);
        int states = x.count(16);
        Due.type(x, "n;n;");
        x.play();
        due("play is one change", x.count(16), states + 1);
        x.undo();
        due("play", x.count(14), 0);
        due("the text stays", x.count(17), 4);
        x.clearText();
        x.play();
        due("play of nothing is a change", x.count(16), states + 1);
        x.undo();
        due("the text is not restored", x.count(17), 0);
    }

    private static void promise24NoChanges() {
        CoughBids x = new CoughBids();
        x.bidder(0, 0, 100, 5);
        x.lot(1, 1);
        x.bidderOf(0, 0);
        x.at(0, 0);
        x.up(0);
        x.waiting(0, 0);
        x.book(0, 0);
        x.why(0);
        x.ifBeats(1, 1);
        x.goneIn();
        x.coughing();
        x.loudest();
        x.ifNights(3);
        x.mean();
        x.count(0);
        x.type(50);
        x.fault(0);
        x.play();
        x.clearText();
        x.bidder(0, 0, 100, 5);
        x.catches(1, 1);
        x.muffle(1, 1);
        x.lot(0, 0);
        x.cough(1);
        x.beats(0);
        x.set(3, 3);
        due("telling, texts and errors record nothing", x.count(16), 2);
        x.undo();
        due("undo is no change", x.count(16), 1);
    }

    public static void main(String[] args) {
        promise22Mean();
        promise22ManyMeans();
        promise23Count();
        promise24Undo();
        promise24EachChange();
        promise24NoChanges();
        Due.end("SumsTest");
    }
}
