import java.util.function.Consumer;
import java.util.function.ToIntFunction;

/** Edges of the section "Changes and errors", and of the promises 22 to 24. */
public final class EdgesOfChangesTest {
    private static final int INVALID = CoughBids.INVALID_ARGUMENT;
    private static final int NOT_POSSIBLE = CoughBids.NOT_POSSIBLE;
    private static final int LIMIT = CoughBids.LIMIT_REACHED;
    private static final int NOT_FOUND = CoughBids.NOT_FOUND;

    private EdgesOfChangesTest() {
    }

    private static void due(String call, int got, int want) {
        Due.due(call, got, want);
    }

    // ---- refused calls

    /** Something of everything: a lot that is up with bids, doubts and a hush, a book, a text. */
    private static void busy(CoughBids x) {
        Due.play(x, "p0,0,90,5;p0,1,80,3;p1,0,70,4;l9,5;l8,4;l7,3;u;c0;b4;n;");
        Due.play(x, "u;m2,1;b3;l6,2;");
        x.catches(1, 4);
        x.set(1, 4);
        x.putUp();
        x.cough(0);
        x.cough(1);
        x.beats(1);
        x.cough(0);
        Due.retype(x, "n;u;");
    }

    /** As full as can be: 12 bidders, 8 lots that wait, 60 characters; no lot is up. */
    private static void full(CoughBids x) {
        for (int i = 0; i < 12; i++) {
            x.bidder(i / 8, i % 8, 100, 5);
        }
        for (int i = 1; i <= 8; i++) {
            x.lot(i, i);
        }
        Due.type(x, "n;n;n;n;n;n;n;n;n;n;n;n;n;n;n;n;n;n;n;n;n;n;n;n;n;n;n;n;n;n;");
        x.catches(3, 4);
    }

    private static void late(CoughBids x) {
        Scenes.passBeats(x, 9999);
        Scenes.passNights(x, 999);
        x.bidder(0, 0, 50, 5);
        x.lot(1, 1);
    }

    private static void fresh(CoughBids x) {
        due("a new object", x.count(16), 0);
    }

    private static void refused(String call, int code, Consumer<CoughBids> past,
            ToIntFunction<CoughBids> refused) {
        Twins.refused(call, code, past, refused);
    }

    private static void refusedOutOfRange() {
        Due.sentence("A call that returns an error changes nothing (INVALID_ARGUMENT)");
        refused("bidder(6, 5, 5, 5)", INVALID, EdgesOfChangesTest::busy, x -> x.bidder(6, 5, 5, 5));
        refused("bidder(5, 8, 5, 5)", INVALID, EdgesOfChangesTest::busy, x -> x.bidder(5, 8, 5, 5));
        refused("bidder(5, 5, -1, 5)", INVALID, EdgesOfChangesTest::busy, x -> x.bidder(5, 5, -1, 5));
        refused("bidder(5, 5, 5, 0)", INVALID, EdgesOfChangesTest::busy, x -> x.bidder(5, 5, 5, 0));
        refused("catches(3, 1)", INVALID, EdgesOfChangesTest::busy, x -> x.catches(3, 1));
        refused("catches(0, 6)", INVALID, EdgesOfChangesTest::busy, x -> x.catches(0, 6));
        refused("muffle(3, 1)", INVALID, EdgesOfChangesTest::busy, x -> x.muffle(3, 1));
        refused("muffle(0, -1)", INVALID, EdgesOfChangesTest::busy, x -> x.muffle(0, -1));
        refused("lot(0, 1)", INVALID, EdgesOfChangesTest::busy, x -> x.lot(0, 1));
        refused("lot(1, 21)", INVALID, EdgesOfChangesTest::busy, x -> x.lot(1, 21));
        refused("cough(3)", INVALID, EdgesOfChangesTest::busy, x -> x.cough(3));
        refused("cough(-1)", INVALID, EdgesOfChangesTest::busy, x -> x.cough(-1));
        refused("beats(0)", INVALID, EdgesOfChangesTest::busy, x -> x.beats(0));
        refused("beats(51)", INVALID, EdgesOfChangesTest::busy, x -> x.beats(51));
        refused("set(3, 1)", INVALID, EdgesOfChangesTest::busy, x -> x.set(3, 1));
        refused("set(2, 10)", INVALID, EdgesOfChangesTest::busy, x -> x.set(2, 10));
        refused("type(127)", INVALID, EdgesOfChangesTest::busy, x -> x.type(127));
        refused("cough(0) of nobody", INVALID, EdgesOfChangesTest::fresh, x -> x.cough(0));
    }

    private static void refusedAsNotPossible() {
        Due.sentence("A call that returns an error changes nothing (NOT_POSSIBLE)");
        refused("bidder(0, 1, 5, 5)", NOT_POSSIBLE, EdgesOfChangesTest::busy, x -> x.bidder(0, 1, 5, 5));
        refused("putUp()", NOT_POSSIBLE, EdgesOfChangesTest::busy, CoughBids::putUp);
        refused("night()", NOT_POSSIBLE, EdgesOfChangesTest::busy, CoughBids::night);
        refused("play()", NOT_POSSIBLE, EdgesOfChangesTest::busy, CoughBids::play);
        refused("putUp() of none", NOT_POSSIBLE, EdgesOfChangesTest::fresh, CoughBids::putUp);
        refused("undo() of none", NOT_POSSIBLE, EdgesOfChangesTest::fresh, CoughBids::undo);
        refused("play() that does two orders ahead of its fault", NOT_POSSIBLE, x -> {
            busy(x);
            Due.retype(x, "c2;b9;c3;");
        }, CoughBids::play);
        refused("play() that breaks off", NOT_POSSIBLE, x -> {
            busy(x);
            Due.retype(x, "c2;b9;n;p1,1,1,1");
        }, CoughBids::play);
    }

    private static void refusedAtLimits() {
        Due.sentence("A call that returns an error changes nothing (LIMIT_REACHED)");
        refused("bidder(1, 4, 5, 5)", LIMIT, EdgesOfChangesTest::full, x -> x.bidder(1, 4, 5, 5));
        refused("lot(1, 1)", LIMIT, EdgesOfChangesTest::full, x -> x.lot(1, 1));
        refused("type(32)", LIMIT, EdgesOfChangesTest::full, x -> x.type(32));
        refused("beats(1)", LIMIT, EdgesOfChangesTest::late, x -> x.beats(1));
        refused("night()", LIMIT, EdgesOfChangesTest::late, CoughBids::night);
        refused("beats(2) to 10000 with a lot up", LIMIT, x -> {
            Scenes.passBeats(x, 9998);
            x.bidder(0, 0, 50, 5);
            x.catches(0, 5);
            Scenes.putUp(x, 1, 1);
        }, x -> x.beats(2));
    }

    private static void refusedTellings() {
        Due.sentence("A call that returns an error changes nothing (what tells)");
        ToIntFunction<CoughBids> allWrong = x -> x.bidderOf(3, 0) + x.bidderOf(0, 11) + x.at(6, 0)
            + x.up(9) + x.waiting(-1, 0) + x.waiting(0, 2) + x.book(-1, 0) + x.book(0, 5) + x.why(3)
            + x.ifBeats(51, 0) + x.ifBeats(1, 4) + x.ifNights(21) + x.count(19) + x.fault(3);
        refused("what tells, out of range", 14 * INVALID, EdgesOfChangesTest::busy, allWrong);
        refused("what tells, of nothing", 8 * NOT_FOUND + 2 * NOT_POSSIBLE, EdgesOfChangesTest::fresh,
            x -> x.at(0, 0) + x.waiting(0, 0) + x.book(0, 0) + x.book(0, 2) + x.loudest() + x.mean()
            + x.fault(0) + x.fault(2) + x.up(0) + x.goneIn());
    }

    /** What only tells must leave all as it is, also where it tries what would be. */
    private static void tellingsChangeNothing() {
        Due.sentence("The changes are the calls of bidder, catches, muffle, lot, putUp, cough, beats, "
            + "night, set and play that return no error");
        CoughBids one = new CoughBids();
        CoughBids other = new CoughBids();
        busy(one);
        busy(other);
        Due.retype(one, "c2;b50;n;m0,5;l1,1;");
        Due.retype(other, "c2;b50;n;m0,5;l1,1;");
        for (int what = 0; what <= 2; what++) {
            other.fault(what);
            other.ifBeats(50, what);
        }
        due("ifNights: two beside each other with 5 in the end", other.ifNights(20), 2);
        due("goneIn", other.goneIn() > 0 ? 1 : 0, 1);
        other.coughing();
        other.why(0);
        other.mean();
        Twins.same("what tells", one, other);
    }

    // ---- of several errors the first

    private static void invalidFirst() {
        Due.sentence("INVALID_ARGUMENT is returned rather than NOT_POSSIBLE, LIMIT_REACHED, NOT_FOUND");
        CoughBids x = Scenes.full();
        due("bidder: a wrong strength on a taken seat", x.bidder(0, 0, 1, 10), INVALID);
        due("bidder: a wrong row, with 12", x.bidder(-1, 0, 1, 1), INVALID);
        due("up: a wrong number, none up", x.up(-1), INVALID);
        due("waiting: a wrong number, none waits", x.waiting(0, -1), INVALID);
        due("book: a wrong number, none in it", x.book(0, -1), INVALID);
        due("fault: a wrong number, no fault", x.fault(-1), INVALID);
        due("at: a wrong row, nobody there", x.at(-1, 7), INVALID);
        due("at: a wrong seat, nobody there", x.at(5, -1), INVALID);
        for (int i = 0; i < 8; i++) {
            x.lot(1, 1);
        }
        due("lot: a wrong step, with 8", x.lot(1, 0), INVALID);
        CoughBids late = new CoughBids();
        late(late);
        due("beats: 0 at the limit", late.beats(0), INVALID);
        due("beats: 51 at the limit", late.beats(51), INVALID);
    }

    private static void notPossibleNext() {
        Due.sentence("NOT_POSSIBLE rather than LIMIT_REACHED, and LIMIT_REACHED rather than NOT_FOUND");
        CoughBids x = Scenes.full();
        due("bidder: a taken seat, with 12", x.bidder(0, 0, 1, 1), NOT_POSSIBLE);
        due("up: the latest bid, none up", x.up(2), NOT_POSSIBLE);
        due("up: the bidder of it, none up", x.up(3), NOT_POSSIBLE);
        CoughBids late = new CoughBids();
        late(late);
        late.putUp();
        due("night: a lot is up, and there were 999", late.night(), NOT_POSSIBLE);
    }

    // ---- the history

    private static void atMostFourStates() {
        Due.sentence("A history of at most 4 states is kept; if there are 5 states then, the oldest one "
            + "is dropped");
        CoughBids x = new CoughBids();
        x.bidder(0, 0, 10, 5);
        for (int i = 1; i <= 9; i++) {
            x.set(2, i);
            due("states", x.count(16), Math.min(i + 1, 4));
        }
        for (int i = 1; i <= 4; i++) {
            due("undo", x.undo(), 4 - i);
            due("the setting before", x.count(22), 9 - i);
            due("states", x.count(16), 4 - i);
        }
        due("undo of none", x.undo(), NOT_POSSIBLE);
        due("the setting is as it was", x.count(22), 5);
        due("the bidder is there", x.count(1), 1);
    }

    /** What only tells, and what is refused, must not touch a state that is kept. */
    private static void statesAreKept() {
        Due.sentence("Restores the latest state of the history");
        for (int changes = 4; changes <= 9; changes++) {
            CoughBids x = new CoughBids();
            for (int i = 1; i <= changes; i++) {
                x.set(2, i);
            }
            Due.type(x, "p0,0,1,1;m0,1;l1,1;u;b1;u;");
            due("a fault", x.fault(2), NOT_POSSIBLE);
            due("changes that are refused", x.putUp() + x.play(), 2 * NOT_POSSIBLE);
            due("and those out of range", x.beats(51) + x.cough(0), 2 * INVALID);
            due("what would be", x.ifBeats(50, 0) + x.ifNights(20), 0);
            for (int i = 1; i <= 4; i++) {
                due("undo", x.undo() >= 0 ? 1 : 0, 1);
                due("the setting before", x.count(22), changes - i == 0 ? 3 : changes - i);
                due("no bidder, no lot", x.count(1) + x.count(4), 0);
                due("what would be", x.ifBeats(50, 0) + x.ifNights(20), 0);
            }
        }
    }

    /** Changes and undos by turns, so that the places of the history are used again and again. */
    private static void statesByTurns() {
        Due.sentence("Restores the latest state of the history, which is removed from it");
        CoughBids x = new CoughBids();
        x.bidder(0, 0, 999, 9);
        for (int i = 0; i < 50; i++) {
            int muffler = x.bidderOf(0, 5);
            x.muffle(0, (muffler + 1) % 6);
            x.catches(0, 1 + i % 5);
            x.catches(0, 0);
            due("undo", x.undo(), 3);
            due("the latest state", x.bidderOf(0, 4), 1 + i % 5);
            x.undo();
            due("the state before it", x.bidderOf(0, 4), 0);
            due("what was done before stays", x.bidderOf(0, 5), (muffler + 1) % 6);
        }
    }

    private static void undoOfNothing() {
        Due.sentence("undo: NOT_POSSIBLE if it is empty");
        CoughBids x = new CoughBids();
        due("in a new object", x.undo(), NOT_POSSIBLE);
        x.type('n');
        due("behind a text", x.undo(), NOT_POSSIBLE);
        x.putUp();
        due("behind an error", x.undo(), NOT_POSSIBLE);
        x.beats(1);
        due("behind a change", x.undo(), 0);
        due("behind undo", x.undo(), NOT_POSSIBLE);
        due("the text is there", x.count(17), 1);
    }

    private static void allButTheText() {
        Due.sentence("each change records everything before it but the text");
        CoughBids one = new CoughBids();
        CoughBids other = new CoughBids();
        busy(one);
        busy(other);
        one.clearText();
        Due.retype(other, "b50;n;l1,1;m0,5;");
        due("play", other.play(), 4);
        due("its text is longer than the other's", other.clearText(), 16);
        Due.type(other, "n;");
        due("undo", other.undo(), 3);
        due("the text typed behind it stays", other.clearText(), 2);
        one.set(0, 3);
        one.undo();
        Twins.same("play and undo", one, other);
    }

    private static void behindBusy(CoughBids x) {
        busy(x);
        x.beats(50);
    }

    private static void eachChangeUndone() {
        Due.sentence("Restores the latest state of the history");
        undone("bidder", EdgesOfChangesTest::busy, x -> x.bidder(5, 5, 5, 5));
        undone("catches", EdgesOfChangesTest::busy, x -> x.catches(0, 5));
        undone("muffle", EdgesOfChangesTest::busy, x -> x.muffle(0, 5));
        undone("lot", EdgesOfChangesTest::busy, x -> x.lot(5, 5));
        undone("cough", EdgesOfChangesTest::busy, x -> x.cough(1));
        undone("beats", EdgesOfChangesTest::busy, x -> x.beats(50));
        undone("set", EdgesOfChangesTest::busy, x -> x.set(0, 9));
        undone("putUp", EdgesOfChangesTest::behindBusy, CoughBids::putUp);
        undone("night", EdgesOfChangesTest::behindBusy, CoughBids::night);
        undone("play", EdgesOfChangesTest::busy, x -> {
            Due.retype(x, "c1;b50;u;b50;n;m0,5;l1,1;p5,5,5,5;c3;");
            return x.play();
        });
    }

    /** One twin has the change undone, the other a plain one, so that both drop the oldest state. */
    private static void undone(String call, Consumer<CoughBids> past,
            ToIntFunction<CoughBids> change) {
        CoughBids one = new CoughBids();
        CoughBids other = new CoughBids();
        past.accept(one);
        past.accept(other);
        due(call + " is done", change.applyAsInt(other) >= 0 ? 1 : 0, 1);
        due("a state for it", other.count(16), 4);
        due("undo of " + call, other.undo(), 3);
        one.catches(0, 0);
        one.undo();
        one.clearText();
        other.clearText();
        Twins.same(call + " and undo", one, other);
    }

    private static void changesThatChangeNothing() {
        Due.sentence("The changes are the calls that return no error");
        CoughBids x = new CoughBids();
        x.bidder(0, 0, 10, 5);
        due("the same cold", x.catches(0, 0) + x.count(16), 2);
        due("the same muffler", x.muffle(0, 0) + x.count(16), 3);
        due("the same setting", x.set(0, 3) + x.count(16), 3 + 4);
        x.undo();
        x.undo();
        x.undo();
        due("a cough that is no bid", x.cough(0) + x.count(16), 2);
        due("a night that changes no cold", x.night() + x.count(16), 3);
        due("a play of nothing", x.play() + x.count(16), 4);
        due("all are undone", x.undo() + x.undo() + x.undo(), 3 + 2 + 1);
        due("undo is no change", x.count(16), 1);
    }

    // ---- the mean and the numbers

    private static void meanOfNone() {
        Due.sentence("mean: NOT_FOUND if none was sold");
        CoughBids x = Scenes.strong(9, 4);
        due("in the beginning", x.mean(), NOT_FOUND);
        Scenes.putUp(x, 1, 1);
        x.beats(3);
        due("one without a bid", x.mean(), NOT_FOUND);
        x.catches(1, 5);
        Scenes.putUp(x, 1, 1);
        x.beats(50);
        due("one not sold for a cold", x.count(18), 1);
        due("mean of it", x.mean(), NOT_FOUND);
        x.set(1, 1);
        Scenes.putUp(x, 1, 1);
        x.cough(1);
        due("one withdrawn", x.count(6), 1);
        due("mean of it", x.mean(), NOT_FOUND);
        Scenes.putUp(x, 1, 1);
        x.catches(1, 0);
        x.cough(0);
        x.beats(4);
        due("1 coin for one lot", x.mean(), 0x3F800000);
        x.undo();
        due("behind undo", x.mean(), NOT_FOUND);
    }

    private static void meanBits() {
        Due.sentence("the coins paid so far, as a float, divided by how many lots were sold, as a float");
        int[][] sums = {{1, 1}, {2, 1}, {99, 1}, {3, 2}, {4, 3}, {5, 3}, {100, 3}, {7, 4}, {10, 7},
            {98, 97}, {64, 1}, {63, 1}, {65, 1}, {127, 2}, {129, 2}, {594, 7}};
        for (int[] sum : sums) {
            CoughBids x = Scenes.strong(9);
            x.set(2, 1);
            int left = sum[0];
            for (int lots = sum[1]; lots > 0; lots--) {
                int reserve = Math.min(99, left - (lots - 1));
                Scenes.putUp(x, reserve, 1);
                x.cough(0);
                x.beats(2);
                left -= reserve;
            }
            due("all was paid", x.count(8), sum[0]);
            due("mean of " + sum[0] + " by " + sum[1], x.mean(),
                Float.floatToIntBits((float) sum[0] / (float) sum[1]));
        }
    }

    private static void countRange() {
        Due.sentence("count: INVALID_ARGUMENT if what is out of range");
        CoughBids x = new CoughBids();
        Due.outside("what", 0, 22, x::count);
        due("the number between", x.count(19), INVALID);
        int[] told = {0, 0, 0, 0, 0, 0, 0, 0, 0, 0, 0, 0, 0, 0, 0, 0, 0, 0, 0, INVALID, 3, 3, 3};
        for (int what = 0; what <= 22; what++) {
            due("count(" + what + ")", x.count(what), told[what]);
        }
    }

    private static void sumsToldInTwoWays() {
        Due.sentence("8: coins paid so far, told lot by lot; 9: the same, told by purses");
        CoughBids x = new CoughBids();
        due("without purses", x.count(8) + x.count(9), 0);
        x.bidder(0, 0, 99, 9);
        x.bidder(0, 2, 0, 9);
        x.bidder(0, 4, 999, 9);
        due("all have what they came with", x.count(8) + x.count(9), 0);
        Scenes.putUp(x, 99, 1);
        x.cough(0);
        due("a bid is not paid", x.count(8) + x.count(9), 0);
        x.beats(4);
        due("a purse that is empty: lot by lot", x.count(8), 99);
        due("a purse that is empty: by purses", x.count(9), 99);
        Scenes.putUp(x, 1, 1);
        x.cough(2);
        x.beats(4);
        due("two lots: lot by lot", x.count(8), 100);
        due("two lots: by purses", x.count(9), 100);
        x.undo();
        due("one undone: lot by lot", x.count(8), 99);
        due("one undone: by purses", x.count(9), 99);
    }

    private static void lastCall() {
        Due.sentence("An object is used for at most 512 calls after it has been made");
        CoughBids x = new CoughBids();
        x.bidder(0, 0, 10, 5);
        for (int call = 2; call <= 511; call++) {
            due("call " + call, x.cough(0), 0);
        }
        due("call 512", x.bidderOf(0, 7), 510);
        CoughBids sales = new CoughBids();
        sales.bidder(0, 0, 999, 9);
        sales.set(2, 1);
        for (int lot = 1; lot <= 127; lot++) {
            due("lot", sales.lot(1, 1), 1);
            due("put up", sales.putUp(), 1);
            due("bid", sales.cough(0), 1);
            due("sold", sales.beats(2), 1);
        }
        due("call 511", sales.count(5), 127);
        due("call 512", sales.mean(), 0x3F800000);
    }

    public static void main(String[] args) {
        refusedOutOfRange();
        refusedAsNotPossible();
        refusedAtLimits();
        refusedTellings();
        tellingsChangeNothing();
        invalidFirst();
        notPossibleNext();
        atMostFourStates();
        statesAreKept();
        statesByTurns();
        undoOfNothing();
        allButTheText();
        eachChangeUndone();
        changesThatChangeNothing();
        meanOfNone();
        meanBits();
        countRange();
        sumsToldInTwoWays();
        lastCall();
        Due.end("EdgesOfChangesTest");
    }
}
