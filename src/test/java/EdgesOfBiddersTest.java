/** Edges of the section "Bidders" and "Settings", and of the promises 1 to 4, 10 to 12 and 20. */
public final class EdgesOfBiddersTest {
    private static final int INVALID = CoughBids.INVALID_ARGUMENT;
    private static final int NOT_POSSIBLE = CoughBids.NOT_POSSIBLE;
    private static final int LIMIT = CoughBids.LIMIT_REACHED;
    private static final int NOT_FOUND = CoughBids.NOT_FOUND;

    private EdgesOfBiddersTest() {
    }

    private static void due(String call, int got, int want) {
        Due.due(call, got, want);
    }

    // ---- the section "Bidders"

    private static void atMostTwelve() {
        Due.sentence("There are at most 12 bidders, numbered from 0 in the order in which they came");
        CoughBids x = new CoughBids();
        for (int i = 0; i < 12; i++) {
            due("bidder " + i, x.bidder(i % 6, 7 - i / 6, i, 1), i);
        }
        due("the 13th", x.bidder(0, 0, 0, 1), LIMIT);
        due("there are 12", x.count(1), 12);
        due("the first", x.bidderOf(0, 2), 0);
        due("the last", x.bidderOf(11, 2), 11);
        x.undo();
        due("room for one again", x.bidder(0, 0, 0, 1), 11);
        due("and not for two", x.bidder(0, 1, 0, 1), LIMIT);
    }

    private static void whereNobodyElseSits() {
        Due.sentence("on a seat, 0 to 7, where nobody else sits");
        CoughBids x = new CoughBids();
        due("row 2, seat 3", x.bidder(2, 3, 10, 1), 0);
        due("the same seat", x.bidder(2, 3, 10, 1), NOT_POSSIBLE);
        due("row 3, seat 2", x.bidder(3, 2, 10, 1), 1);
        due("the same row", x.bidder(2, 4, 10, 1), 2);
        due("the same seat of another row", x.bidder(4, 3, 10, 1), 3);
        due("the seat of the last one", x.bidder(4, 3, 10, 1), NOT_POSSIBLE);
        x.undo();
        due("nobody sits there now", x.bidder(4, 3, 10, 1), 3);
    }

    private static void wellAndBareAtFirst() {
        Due.sentence("a cold (0 to 5, 0 at first) and a muffler (0 to 5, 0 at first)");
        CoughBids x = new CoughBids();
        x.bidder(0, 0, 10, 1);
        x.catches(0, 5);
        x.muffle(0, 5);
        x.bidder(0, 1, 10, 1);
        due("cold of the next", x.bidderOf(1, 4), 0);
        due("muffler of the next", x.bidderOf(1, 5), 0);
        due("catches, the cold before", x.catches(1, 0), 0);
        due("muffle, the muffler before", x.muffle(1, 0), 0);
    }

    private static void howLoud() {
        Due.sentence("How loud a cough is: the strength and the cold, together, less the muffler, less "
            + "the row");
        CoughBids x = new CoughBids();
        x.bidder(0, 0, 10, 9);
        x.catches(0, 5);
        due("as loud as can be", x.bidderOf(0, 6), 114);
        x.bidder(5, 7, 10, 1);
        x.muffle(1, 5);
        due("as low as can be, below 0", x.bidderOf(1, 6), 91);
        x.catches(1, 4);
        x.muffle(1, 0);
        due("0", x.bidderOf(1, 6), 100);
        x.muffle(1, 1);
        due("just below 0", x.bidderOf(1, 6), 99);
    }

    /** By strength, by cold, by muffler and by row, each just heard and just not. */
    private static void justHeard() {
        Due.sentence("It is heard if it is at least setting 0");
        for (int heard = 1; heard <= 9; heard++) {
            CoughBids x = new CoughBids();
            x.bidder(0, 0, 100, heard);
            x.bidder(1, 0, 100, heard);
            x.set(0, heard);
            Scenes.putUp(x, 1, 1);
            due("as loud as setting " + heard, x.why(0), 0);
            due("1 less than setting " + heard, x.why(1), 2);
            x.catches(1, 1);
            due("with a cold again as loud as setting " + heard, x.why(1), 0);
            x.muffle(1, 1);
            due("with a muffler 1 less than setting " + heard, x.why(1), 2);
            due("a cough of it", x.cough(1), 0);
            due("a cough as loud as setting " + heard, x.cough(0), 1);
        }
    }

    // ---- promises 1 to 4

    private static void beginsEmpty() {
        Due.sentence("Begins without bidders and lots");
        CoughBids x = new CoughBids();
        due("bidders", x.count(1), 0);
        due("lots that wait", x.count(2), 0);
        due("a lot that is up", x.count(3), 0);
        due("lots that came", x.count(4), 0);
        due("lots in the book", x.count(15), 0);
        for (int row = 0; row <= 5; row++) {
            for (int seat = 0; seat <= 7; seat++) {
                due("at", x.at(row, seat), NOT_FOUND);
            }
        }
    }

    private static void bidderRanges() {
        Due.sentence("bidder: row 0 to 5, seat 0 to 7, purse 0 to 999, strength 1 to 9");
        CoughBids x = new CoughBids();
        Due.outside("row", 0, 5, row -> x.bidder(row, 3, 10, 5));
        Due.outside("seat", 0, 7, seat -> x.bidder(3, seat, 10, 5));
        Due.outside("purse", 0, 999, purse -> x.bidder(3, 3, purse, 5));
        Due.outside("strength", 1, 9, strength -> x.bidder(3, 3, 10, strength));
        due("nobody came", x.count(1), 0);
        due("all least", x.bidder(0, 0, 0, 1), 0);
        due("all most", x.bidder(5, 7, 999, 9), 1);
        int[][] told = {{0, 0, 0, 1}, {5, 7, 999, 9}};
        for (int what = 0; what <= 3; what++) {
            due("bidderOf(0, " + what + ")", x.bidderOf(0, what), told[0][what]);
            due("bidderOf(1, " + what + ")", x.bidderOf(1, what), told[1][what]);
        }
    }

    private static void bidderErrors() {
        Due.sentence("bidder: INVALID_ARGUMENT if an argument is out of range; NOT_POSSIBLE if somebody "
            + "sits there; LIMIT_REACHED if there are 12");
        CoughBids x = Scenes.full();
        due("out of range, with 12", x.bidder(6, 7, 10, 5), INVALID);
        due("out of range on a taken seat", x.bidder(0, 0, 1000, 5), INVALID);
        due("a taken seat, with 12", x.bidder(1, 3, 10, 5), NOT_POSSIBLE);
        due("a free seat, with 12", x.bidder(1, 4, 10, 5), LIMIT);
    }

    private static void catchesRange() {
        Due.sentence("catches: cold 0 to 5; returns the cold before; INVALID_ARGUMENT if an argument is "
            + "out of range");
        CoughBids x = Scenes.full();
        Due.outside("cold", 0, 5, cold -> x.catches(11, cold));
        Due.outside("bidder", 0, 11, number -> x.catches(number, 1));
        due("no cold at all", x.count(13), 0);
        due("the most", x.catches(11, 5), 0);
        due("the least", x.catches(11, 0), 5);
        due("none again", x.catches(11, 0), 0);
    }

    private static void muffleRange() {
        Due.sentence("muffle: muffler 0 to 5; returns the muffler before; INVALID_ARGUMENT if an "
            + "argument is out of range");
        CoughBids x = Scenes.full();
        Due.outside("muffler", 0, 5, muffler -> x.muffle(11, muffler));
        Due.outside("bidder", 0, 11, number -> x.muffle(number, 1));
        due("the most", x.muffle(11, 5), 0);
        due("the least", x.muffle(11, 0), 5);
        due("none again", x.muffle(11, 0), 0);
    }

    // ---- the section "Settings", promises 10 to 12 and 20

    private static void settingsAtFirst() {
        Due.sentence("0 what is heard (1 to 9; 3), 1 doubts (1 to 9; 3), 2 hush (1 to 9; 3)");
        for (int what = 0; what <= 2; what++) {
            CoughBids x = new CoughBids();
            due("at first", x.count(20 + what), 3);
            due("set to the least", x.set(what, 1), 3);
            due("set to the most", x.set(what, 9), 1);
            due("it is that", x.count(20 + what), 9);
            due("the others are as before", x.count(20) + x.count(21) + x.count(22), 15);
        }
    }

    private static void setRanges() {
        Due.sentence("set: what 0 to 2, value 1 to 9; INVALID_ARGUMENT if an argument is out of range");
        CoughBids x = new CoughBids();
        Due.outside("what", 0, 2, what -> x.set(what, 5));
        for (int what = 0; what <= 2; what++) {
            int which = what;
            Due.outside("value of " + what, 1, 9, value -> x.set(which, value));
        }
        due("no change", x.count(16), 0);
        due("all as at first", x.count(20) + x.count(21) + x.count(22), 9);
    }

    private static void bidderOfRange() {
        Due.sentence("bidderOf: INVALID_ARGUMENT if an argument is out of range");
        CoughBids x = Scenes.full();
        Due.outside("what", 0, 10, what -> x.bidderOf(0, what));
        Due.outside("bidder", 0, 11, number -> x.bidderOf(number, 0));
        due("the last bidder, the last number", x.bidderOf(11, 10), 0);
        due("the first of both", x.bidderOf(0, 0), 0);
    }

    private static void atSeats() {
        Due.sentence("at: INVALID_ARGUMENT if an argument is out of range; NOT_FOUND if nobody sits "
            + "there");
        CoughBids x = new CoughBids();
        due("with nobody at all", x.at(0, 0), NOT_FOUND);
        x.bidder(5, 7, 1, 1);
        x.bidder(0, 0, 1, 1);
        due("the last seat", x.at(5, 7), 0);
        due("the first seat", x.at(0, 0), 1);
        due("beside it", x.at(0, 1), NOT_FOUND);
        due("behind it", x.at(1, 0), NOT_FOUND);
        Due.outside("row", 0, 5, row -> x.at(row, 0));
        Due.outside("seat", 0, 7, seat -> x.at(0, seat));
        due("row 8, seat 0 is no seat 0 of row 0", x.at(8, 0), INVALID);
        due("row 0, seat 8 is no seat 0 of row 1", x.at(0, 8), INVALID);
        x.undo();
        due("nobody, behind undo", x.at(0, 0), NOT_FOUND);
    }

    private static void noSuchBidder() {
        Due.sentence("If there is no bidder with a certain number, this is INVALID_ARGUMENT");
        for (int bidders = 0; bidders <= 3; bidders++) {
            CoughBids x = new CoughBids();
            for (int i = 0; i <= bidders; i++) {
                x.bidder(0, i, 10, 5);
            }
            x.undo();
            int number = bidders;
            due("catches", x.catches(number, 1), INVALID);
            due("muffle", x.muffle(number, 1), INVALID);
            due("cough", x.cough(number), INVALID);
            due("bidderOf", x.bidderOf(number, 0), INVALID);
            due("why", x.why(number), INVALID);
            if (bidders > 0) {
                due("the last one is there", x.catches(number - 1, 1), 0);
            }
        }
    }

    private static void loudestOfNone() {
        Due.sentence("loudest: NOT_FOUND without bidders");
        CoughBids x = new CoughBids();
        due("in a new object", x.loudest(), NOT_FOUND);
        x.bidder(5, 0, 0, 1);
        due("one below 0", x.loudest(), 0);
        x.undo();
        due("behind undo", x.loudest(), NOT_FOUND);
    }

    private static void loudestOfSeveral() {
        Due.sentence("Finds the bidder with the loudest cough; of several the lowest");
        CoughBids x = Scenes.full();
        for (int i = 0; i < 8; i++) {
            x.muffle(i, 2);
        }
        due("all of row 1 by 1 louder", x.loudest(), 8);
        x.catches(11, 1);
        due("the last", x.loudest(), 11);
        x.catches(9, 1);
        due("as loud as the last", x.loudest(), 9);
        x.muffle(0, 0);
        due("as loud as both", x.loudest(), 0);
        x.muffle(0, 1);
        due("1 less than both", x.loudest(), 9);
    }

    public static void main(String[] args) {
        atMostTwelve();
        whereNobodyElseSits();
        wellAndBareAtFirst();
        howLoud();
        justHeard();
        beginsEmpty();
        bidderRanges();
        bidderErrors();
        catchesRange();
        muffleRange();
        settingsAtFirst();
        setRanges();
        bidderOfRange();
        atSeats();
        noSuchBidder();
        loudestOfNone();
        loudestOfSeveral();
        Due.end("EdgesOfBiddersTest");
    }
}
