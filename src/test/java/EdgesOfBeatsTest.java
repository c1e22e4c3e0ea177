/** Edges of the sections "Beats" and "Nights", and of the promises 8, 9, 17 to 19 and 21. */
public final class EdgesOfBeatsTest {
    private static final int INVALID = CoughBids.INVALID_ARGUMENT;
    private static final int NOT_POSSIBLE = CoughBids.NOT_POSSIBLE;
    private static final int LIMIT = CoughBids.LIMIT_REACHED;
    private static final int NOT_FOUND = CoughBids.NOT_FOUND;

    private EdgesOfBeatsTest() {
    }

    private static void due(String call, int got, int want) {
        Due.due(call, got, want);
    }

    // ---- beats

    private static void beatsRange() {
        Due.sentence("beats: many 1 to 50; INVALID_ARGUMENT if many is out of range");
        CoughBids x = new CoughBids();
        Due.outside("many", 1, 50, x::beats);
        due("none passed", x.count(0), 0);
        due("the least", x.beats(1), 0);
        due("one passed", x.count(0), 1);
        due("the most", x.beats(50), 0);
        due("51 passed", x.count(0), 51);
    }

    private static void beatsLimit() {
        Due.sentence("beats: LIMIT_REACHED if more than 9999 beats would have passed");
        CoughBids x = new CoughBids();
        Scenes.passBeats(x, 9950);
        due("to 10000", x.beats(50), LIMIT);
        due("none of them passed", x.count(0), 9950);
        due("to 9999", x.beats(49), 0);
        due("passed", x.count(0), 9999);
        due("one more", x.beats(1), LIMIT);
        due("fifty more", x.beats(50), LIMIT);
        Due.outside("many, at the limit", 1, 50, x::beats);
        Due.retype(x, "b1;");
        due("one more by a text: its cause", x.fault(2), LIMIT);
        x.undo();
        due("behind undo, to 9999", x.beats(49), 0);
    }

    /** At 9999 beats a lot can't go by beats any more; the numbers stay as they are. */
    private static void limitWithLotUp() {
        Due.sentence("beats: LIMIT_REACHED; a call that returns an error changes nothing");
        CoughBids x = Scenes.strong(9);
        Scenes.passBeats(x, 9998);
        x.catches(0, 5);
        Scenes.putUp(x, 1, 1);
        due("two beats", x.beats(2), LIMIT);
        due("no cough in a beat that did not pass", x.count(10), 0);
        due("no hush", x.up(5), 0);
        due("one beat", x.beats(1), 0);
        due("a cough", x.count(10), 1);
    }

    private static void goneBehindThem() {
        Due.sentence("beats: Returns 1 if a lot was up and is gone behind them, otherwise 0");
        CoughBids x = new CoughBids();
        due("none up", x.beats(3), 0);
        x.lot(1, 1);
        due("one waits", x.beats(3), 0);
        x.putUp();
        due("not gone yet", x.beats(2), 0);
        due("gone in the last of them", x.beats(1), 1);
        due("gone before them", x.beats(1), 0);
        Scenes.putUp(x, 1, 1);
        due("gone in the third of fifty", x.beats(50), 1);
        due("all fifty pass", x.count(0), 3 + 3 + 3 + 1 + 50);
    }

    private static void upAsItBegins() {
        Due.sentence("In a beat, if a lot is up as it begins, each bidder with a cold c above 0 coughs");
        CoughBids x = Scenes.strong(9, 9);
        x.catches(0, 5);
        x.lot(1, 1);
        x.beats(50);
        due("no coughs while one waits", x.count(10), 0);
        x.putUp();
        x.beats(1);
        due("a cough of the one with a cold", x.bidderOf(0, 7), 1);
        due("none of the one without", x.bidderOf(1, 7), 0);
        x.catches(0, 0);
        x.beats(50);
        due("no more coughs", x.count(10), 1);
    }

    /** For every cold, bidder and beat through more than one round of each divisor. */
    private static void dividedBy7LessC() {
        Due.sentence("if the beats so far (this one not counted) and the number of the bidder, "
            + "together, can be divided by 7 less c");
        for (int cold = 0; cold <= 5; cold++) {
            CoughBids x = Scenes.full();
            for (int i = 0; i < 12; i++) {
                x.catches(i, cold);
            }
            for (int beat = 0; beat <= 13; beat++) {
                int want = 0;
                for (int i = 0; i < 12; i++) {
                    want += cold > 0 && (beat + i) % (7 - cold) == 0 ? 1 << i : 0;
                }
                due("cold " + cold + " at " + beat, x.coughing(), want);
                x.beats(1);
            }
        }
    }

    private static void coughsOfTwelve() {
        Due.sentence("each bidder with a cold c above 0 coughs");
        CoughBids x = Scenes.full();
        for (int i = 0; i < 12; i++) {
            x.catches(i, 5);
        }
        x.set(2, 9);
        Scenes.putUp(x, 99, 20);
        due("the lot is up", x.beats(4), 0);
        for (int i = 0; i < 12; i++) {
            due("coughs of " + i + " in four beats", x.bidderOf(i, 7), 2);
        }
        due("coughs in all", x.count(10), 24);
        due("only the first one bids", x.count(11), 1);
    }

    private static void behindWithdrawal() {
        Due.sentence("each coughs (also behind one by whose bid it is withdrawn), by the numbers");
        CoughBids x = Scenes.strong(4, 9, 4, 9);
        x.set(1, 1);
        for (int i = 0; i < 4; i++) {
            x.catches(i, 5);
        }
        Scenes.putUp(x, 1, 1);
        due("gone", x.beats(1), 1);
        due("bid of 0", x.book(0, 1), 1);
        due("by 0", x.book(0, 2), 0);
        due("2 coughs behind it", x.bidderOf(2, 7), 1);
        due("but bids nothing", x.bidderOf(2, 8), 0);
        due("1 and 3 are not due", x.bidderOf(1, 7) + x.bidderOf(3, 7), 0);
        due("the beat is counted", x.count(0), 1);
        due("no cough in the beats behind", x.beats(50) + x.count(10), 2);
    }

    private static void byTheNumbers() {
        Due.sentence("each bidder coughs, by the numbers");
        CoughBids x = Scenes.strong(9, 9, 9);
        for (int i = 0; i < 3; i++) {
            x.catches(i, 5);
        }
        Scenes.putUp(x, 1, 1);
        x.beats(1);
        due("0 and then 2", x.up(3), 2);
        due("two bids", x.up(2), 2);
        x.beats(1);
        due("1 upon them", x.up(3), 1);
        x.beats(1);
        due("0 and then 2 again", x.up(3), 2);
        due("five bids", x.up(7), 5);
    }

    private static void hushOrNot() {
        Due.sentence("If the lot is still up, and no bid came in this beat or since the beat before, "
            + "its hush is 1 more, otherwise it is 0");
        CoughBids x = Scenes.strong(9, 9);
        x.set(2, 9);
        Scenes.putUp(x, 1, 1);
        x.beats(2);
        due("two beats without a bid", x.up(5), 2);
        x.cough(0);
        due("a bid leaves it to the beat", x.up(5), 2);
        x.beats(1);
        due("a bid since the beat before", x.up(5), 0);
        x.beats(1);
        due("a bid before the beat before", x.up(5), 1);
        x.cough(0);
        x.beats(1);
        due("a cough that is no bid", x.up(5), 2);
        x.catches(1, 4);
        x.beats(1);
        due("a bid for a cold in this beat", x.up(5), 0);
        x.beats(1);
        due("none in the next", x.up(5), 1);
        due("the beats so far", x.count(0), 7);
    }

    private static void hammerAtSetting2() {
        Due.sentence("with a hush of setting 2, or more, the hammer falls");
        for (int hush = 1; hush <= 9; hush++) {
            CoughBids x = Scenes.strong(9);
            x.set(2, hush);
            Scenes.putUp(x, 1, 1);
            for (int beat = 1; beat < hush; beat++) {
                due("a hush less than " + hush, x.beats(1), 0);
                due("the hush", x.up(5), beat);
            }
            due("a hush of " + hush, x.beats(1), 1);
            Scenes.putUp(x, 1, 1);
            x.cough(0);
            due("behind a bid as many beats and one", x.goneIn(), hush + 1);
        }
    }

    private static void orMoreHush() {
        Due.sentence("with a hush of setting 2, or more");
        CoughBids x = Scenes.strong(9);
        x.set(2, 9);
        Scenes.putUp(x, 1, 1);
        x.beats(7);
        x.set(2, 1);
        due("a hush of 7 alone lets nothing fall", x.count(3), 1);
        due("the next beat does", x.beats(1), 1);
        x.set(2, 9);
        Scenes.putUp(x, 1, 1);
        x.beats(7);
        x.set(2, 1);
        x.cough(0);
        due("a bid ends the hush first", x.beats(1), 0);
        due("to 0", x.up(5), 0);
    }

    private static void soldOrNot() {
        Due.sentence("the lot is sold to the bidder of the latest bid, who pays it, unless that was a "
            + "cough for a cold in a beat, which buys nothing; without a bid it is not sold either");
        CoughBids x = new CoughBids();
        x.bidder(0, 0, 15, 9);
        x.bidder(0, 2, 10, 9);
        Scenes.putUp(x, 10, 5);
        x.cough(1);
        x.cough(0);
        due("sold", x.beats(4), 1);
        due("the whole purse", x.bidderOf(0, 2), 0);
        due("paid", x.bidderOf(0, 10), 15);
        due("bought", x.bidderOf(0, 9), 1);
        due("the one before pays nothing", x.bidderOf(1, 2), 10);
        Scenes.putUp(x, 10, 5);
        x.catches(1, 3);
        x.beats(2);
        due("not due at 4 and 5", x.up(7), 0);
        due("a cough by itself, with a cold", x.cough(1), 10);
        x.catches(1, 0);
        due("buys", x.beats(4), 1);
        due("sold for all", x.bidderOf(1, 2), 0);
        Scenes.putUp(x, 10, 5);
        x.beats(3);
        due("without a bid", x.book(0, 0), 2);
        due("sold so far", x.count(5), 2);
        due("bought, as before", x.bidderOf(0, 9), 1);
        due("paid, as before", x.bidderOf(0, 10), 15);
    }

    private static void coldBuysNothing() {
        Due.sentence("unless that was a cough for a cold in a beat, which buys nothing");
        CoughBids x = Scenes.strong(9, 9);
        Scenes.putUp(x, 10, 5);
        x.cough(0);
        x.beats(1);
        x.catches(1, 5);
        due("at beat 1 bidder 1 is due", x.coughing(), 2);
        x.beats(1);
        x.catches(1, 0);
        due("the hammer falls", x.beats(3), 1);
        due("not sold to 1, nor to 0", x.book(0, 0), 3);
        due("bidder of the latest bid", x.book(0, 2), 1);
        due("nobody paid", x.count(8) + x.count(9), 0);
        due("nobody bought", x.bidderOf(0, 9) + x.bidderOf(1, 9), 0);
        Scenes.putUp(x, 10, 5);
        x.catches(1, 5);
        x.beats(1);
        due("for a cold", x.up(8), 1);
        x.catches(1, 0);
        x.cough(0);
        due("a bid over it buys", x.beats(4), 1);
        due("sold", x.book(0, 0), 0);
    }

    // ---- nights

    private static void nightErrors() {
        Due.sentence("night: NOT_POSSIBLE if a lot is up; LIMIT_REACHED if there were 999");
        CoughBids x = new CoughBids();
        due("without bidders", x.night(), 0);
        x.lot(1, 1);
        due("one waits", x.night(), 0);
        x.putUp();
        due("one is up", x.night(), NOT_POSSIBLE);
        x.beats(3);
        due("it is gone", x.night(), 0);
        Scenes.passNights(x, 995);
        due("998 nights", x.count(14), 998);
        due("the 999th", x.night(), 0);
        due("the 1000th", x.night(), LIMIT);
        due("999 nights", x.count(14), 999);
        Scenes.putUp(x, 1, 1);
        due("the 1000th with a lot up", x.night(), NOT_POSSIBLE);
        Due.retype(x, "n;");
        due("by a text: its cause", x.fault(2), NOT_POSSIBLE);
        x.beats(3);
        due("by a text, the lot gone: its cause", x.fault(2), LIMIT);
    }

    private static void besideOnly() {
        Due.sentence("beside whom (in the same row, on the seat one less or one more)");
        int[][] seats = {{2, 3}, {2, 2}, {2, 4}, {2, 1}, {2, 5}, {1, 3}, {3, 3}, {1, 2}, {3, 4}, {2, 7}};
        CoughBids x = new CoughBids();
        for (int[] seat : seats) {
            x.bidder(seat[0], seat[1], 1, 1);
        }
        x.catches(0, 5);
        due("the one and both beside", x.night(), 3);
        due("who has a cold", x.count(13), 0b111);
        due("of the one less", x.bidderOf(1, 4), 1);
        due("of the one more", x.bidderOf(2, 4), 1);
    }

    private static void rowsDoNotWrap() {
        Due.sentence("in the same row, on the seat one less or one more");
        CoughBids x = new CoughBids();
        x.bidder(1, 7, 1, 1);
        x.bidder(2, 0, 1, 1);
        x.bidder(1, 0, 1, 1);
        x.bidder(0, 7, 1, 1);
        x.bidder(0, 0, 1, 1);
        x.bidder(5, 7, 1, 1);
        x.catches(0, 5);
        due("seat 7 is beside seat 6 alone", x.night(), 1);
        x.catches(0, 0);
        x.catches(1, 5);
        due("seat 0 is beside seat 1 alone", x.night(), 1);
        due("who has a cold", x.count(13), 0b10);
    }

    private static void colds2OrMore() {
        Due.sentence("somebody has a cold that is, less the muffler of that one, at least 2");
        for (int cold = 0; cold <= 5; cold++) {
            for (int muffler = 0; muffler <= 5; muffler++) {
                CoughBids x = new CoughBids();
                x.bidder(0, 0, 1, 1);
                x.bidder(0, 1, 1, 1);
                x.catches(0, cold);
                x.muffle(0, muffler);
                x.muffle(1, 5);
                x.night();
                String told = "beside cold " + cold + " with muffler " + muffler;
                due(told, x.bidderOf(1, 4), cold - muffler >= 2 ? 1 : 0);
            }
        }
    }

    private static void asTheyAreAhead() {
        Due.sentence("By colds as they are ahead of it");
        CoughBids x = new CoughBids();
        for (int seat = 0; seat < 3; seat++) {
            x.bidder(0, seat, 1, 1);
        }
        x.catches(0, 2);
        x.catches(1, 1);
        x.night();
        due("2, beside nobody with 2, becomes 1", x.bidderOf(0, 4), 1);
        due("1, beside 2, becomes 2", x.bidderOf(1, 4), 2);
        due("the next is not beside 2 ahead of it", x.bidderOf(2, 4), 0);
        x.catches(0, 0);
        x.catches(1, 1);
        x.catches(2, 2);
        x.night();
        due("nor against the numbers", x.bidderOf(0, 4), 0);
        due("1 beside 2", x.bidderOf(1, 4), 2);
    }

    private static void fiveAtMostZeroAtLeast() {
        Due.sentence("gets a cold that is 1 more, but 5 at most; the cold of any other bidder becomes "
            + "1 less, but 0 at least");
        CoughBids x = new CoughBids();
        x.bidder(0, 0, 1, 1);
        x.bidder(0, 1, 1, 1);
        x.bidder(3, 3, 1, 1);
        x.catches(0, 5);
        x.catches(1, 4);
        x.catches(2, 2);
        int[][] colds = {{5, 5, 1}, {5, 5, 0}, {5, 5, 0}};
        for (int[] behind : colds) {
            x.night();
            for (int i = 0; i < 3; i++) {
                due("cold of " + i, x.bidderOf(i, 4), behind[i]);
            }
        }
    }

    private static void nightAnswer() {
        Due.sentence("night: Returns how many bidders have a cold then");
        CoughBids x = Scenes.full();
        due("none", x.night(), 0);
        for (int i = 0; i < 12; i++) {
            x.catches(i, 2);
        }
        due("all", x.night(), 12);
        for (int i = 0; i < 12; i++) {
            x.catches(i, 1);
        }
        due("none then", x.night(), 0);
    }

    // ---- what would be

    private static void ifBeatsRanges() {
        Due.sentence("ifBeats: many 1 to 50, what 0 to 3; INVALID_ARGUMENT if an argument is out of "
            + "range");
        CoughBids x = Scenes.strong(9);
        Due.outside("many", 1, 50, many -> x.ifBeats(many, 0));
        Due.outside("what", 0, 3, what -> x.ifBeats(1, what));
        for (int what = 0; what <= 3; what++) {
            due("none up, one beat", x.ifBeats(1, what), 0);
            due("none up, fifty beats", x.ifBeats(50, what), 0);
        }
        Scenes.putUp(x, 50, 1);
        x.cough(0);
        x.set(2, 1);
        due("not sold in one", x.ifBeats(1, 2), 0);
        due("sold in two", x.ifBeats(2, 2), 1);
        due("sold in fifty", x.ifBeats(50, 2), 1);
        due("coins of it", x.ifBeats(50, 3), 50);
    }

    private static void ifBeatsWithoutBid() {
        Due.sentence("ifBeats: 2: 1 if the lot that is up would be sold, otherwise 0; 3: coins that "
            + "would be paid");
        CoughBids x = Scenes.strong(9, 4);
        Scenes.putUp(x, 10, 5);
        for (int what = 0; what <= 3; what++) {
            due("without a bid: " + what, x.ifBeats(50, what), 0);
        }
        x.catches(1, 5);
        int[] cold = {1, 1, 0, 0};
        for (int what = 0; what <= 3; what++) {
            due("bid for a cold: " + what, x.ifBeats(50, what), cold[what]);
        }
        x.set(1, 1);
        for (int what = 0; what <= 3; what++) {
            due("withdrawn: " + what, x.ifBeats(50, what), cold[what]);
        }
        due("withdrawn in the second", x.goneIn(), 2);
        due("nothing came of it", x.count(0) + x.count(10) + x.count(12) + x.up(7), 0);
    }

    private static void ifBeatsOfThePast() {
        Due.sentence("ifBeats: 0: bids in them; 1: doubts in them; 3: coins that would be paid");
        CoughBids x = Scenes.strong(9, 4);
        Scenes.putUp(x, 10, 5);
        x.cough(0);
        x.beats(4);
        Scenes.putUp(x, 20, 5);
        x.catches(1, 5);
        x.cough(1);
        x.catches(1, 0);
        x.cough(0);
        int[] told = {0, 0, 1, 25};
        for (int what = 0; what <= 3; what++) {
            due("none of the bids, doubts, lots and coins before: " + what, x.ifBeats(50, what),
                told[what]);
        }
        due("bids so far", x.count(11), 3);
        due("doubts so far", x.count(12), 1);
        x.beats(4);
        for (int what = 0; what <= 3; what++) {
            due("none up any more: " + what, x.ifBeats(50, what), 0);
        }
    }

    private static void goneInErrors() {
        Due.sentence("goneIn: NOT_POSSIBLE if no lot is up; NOT_FOUND if that is not within 200");
        CoughBids x = new CoughBids();
        due("in a new object", x.goneIn(), NOT_POSSIBLE);
        x.lot(1, 1);
        due("one waits", x.goneIn(), NOT_POSSIBLE);
        x.putUp();
        x.set(2, 1);
        due("the least", x.goneIn(), 1);
        x.beats(1);
        due("it is gone", x.goneIn(), NOT_POSSIBLE);
        due("within 200, just", goneInOf(197), 200);
        due("201 is not within 200", goneInOf(198), NOT_FOUND);
        due("never", goneInOf(999), NOT_FOUND);
    }

    /** Two with colds bid against each other, a coin a beat, until the purse is too small. */
    private static int goneInOf(int purse) {
        CoughBids x = new CoughBids();
        x.bidder(0, 0, purse, 9);
        x.bidder(0, 2, purse, 9);
        x.catches(0, 5);
        x.catches(1, 5);
        Scenes.putUp(x, 1, 1);
        return x.goneIn();
    }

    private static void coughingWithoutLot() {
        Due.sentence("Tells who coughs for a cold in the next beat, if a lot is up in it");
        CoughBids x = new CoughBids();
        due("without bidders", x.coughing(), 0);
        for (int i = 0; i < 12; i++) {
            x.bidder(i / 8, i % 8, 0, 1);
        }
        due("without colds, where 0 could be divided", x.coughing(), 0);
        x.catches(11, 5);
        due("11 at 0", x.coughing(), 0);
        x.beats(1);
        due("11 at 1, with no lot up", x.coughing(), 1 << 11);
        Scenes.putUp(x, 1, 1);
        due("11 at 1, with a lot up, though not heard", x.coughing(), 1 << 11);
        due("it is no cough", x.count(10), 0);
    }

    private static void ifNightsRange() {
        Due.sentence("ifNights: nights 1 to 20; INVALID_ARGUMENT if nights is out of range");
        CoughBids x = new CoughBids();
        Due.outside("nights", 1, 20, x::ifNights);
        due("without bidders, the least", x.ifNights(1), 0);
        due("without bidders, the most", x.ifNights(20), 0);
        for (int seat = 0; seat < 4; seat++) {
            x.bidder(2, seat, 1, 1);
            x.muffle(seat, 3);
        }
        x.catches(0, 5);
        x.muffle(0, 0);
        int[] told = {2, 2, 2, 2, 1, 1, 1, 0};
        for (int nights = 1; nights <= 8; nights++) {
            due("behind " + nights, x.ifNights(nights), told[nights - 1]);
        }
        due("behind 20", x.ifNights(20), 0);
        due("no night passed", x.count(14), 0);
        due("nobody caught anything", x.count(13), 1);
    }

    public static void main(String[] args) {
        beatsRange();
        beatsLimit();
        limitWithLotUp();
        goneBehindThem();
        upAsItBegins();
        dividedBy7LessC();
        coughsOfTwelve();
        behindWithdrawal();
        byTheNumbers();
        hushOrNot();
        hammerAtSetting2();
        orMoreHush();
        soldOrNot();
        coldBuysNothing();
        nightErrors();
        besideOnly();
        rowsDoNotWrap();
        colds2OrMore();
        asTheyAreAhead();
        fiveAtMostZeroAtLeast();
        nightAnswer();
        ifBeatsRanges();
        ifBeatsWithoutBid();
        ifBeatsOfThePast();
        goneInErrors();
        coughingWithoutLot();
        ifNightsRange();
        Due.end("EdgesOfBeatsTest");
    }
}
