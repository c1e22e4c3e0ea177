/** Promises 8, 9, 17 to 19, 21: beats and nights, and what they would bring. */
public final class BeatsTest {
    private static final int INVALID = CoughBids.INVALID_ARGUMENT;
    private static final int NOT_POSSIBLE = CoughBids.NOT_POSSIBLE;
    private static final int NOT_FOUND = CoughBids.NOT_FOUND;
    private static final int LIMIT = CoughBids.LIMIT_REACHED;
    private static final int[] EXTREMES = {Integer.MIN_VALUE, -1, 0, Integer.MAX_VALUE};

    private BeatsTest() {
    }

    private static void due(String call, int got, int want) {
        Due.due(call, got, want);
    }

    private static void promise8Errors() {
        CoughBids x = new CoughBids();
        for (int extreme : EXTREMES) {
            due("beats extreme", x.beats(extreme), INVALID);
        }
        due("beats(51)", x.beats(51), INVALID);
        due("no beats", x.count(0), 0);
        due("beats(50), none up", x.beats(50), 0);
        due("beats so far", x.count(0), 50);
        due("a change", x.count(16), 1);
        Due.retype(x, "b50;b50;b50;b50;b50;b50;b50;b50;b50;b50;b50;b50;b50;b50;b50;");
        for (int i = 0; i < 13; i++) {
            x.play();
        }
        due("beats so far", x.count(0), 9800);
        x.beats(50);
        x.beats(50);
        x.beats(50);
        x.beats(49);
        due("almost", x.count(0), 9999);
        due("one more", x.beats(1), LIMIT);
        due("out of range goes first", x.beats(51), INVALID);
        x.undo();
        due("undone", x.count(0), 9950);
        due("too many", x.beats(50), LIMIT);
        due("nothing passed", x.count(0), 9950);
        due("just as many", x.beats(49), 0);
        due("at the limit", x.count(0), 9999);
    }

    private static void promise8Hush() {
        CoughBids x = new CoughBids();
        x.bidder(0, 0, 100, 5);
        x.lot(10, 1);
        x.lot(20, 1);
        x.lot(30, 1);
        x.lot(40, 1);
        x.putUp();
        due("hush", x.up(5), 0);
        x.beats(1);
        due("hush without a bid", x.up(5), 1);
        x.cough(0);
        due("a bid leaves the hush to the beat", x.up(5), 1);
        x.beats(1);
        due("hush behind a bid", x.up(5), 0);
        x.cough(0);
        due("a cough that is no bid", x.beats(1), 0);
        due("does not break the hush", x.up(5), 1);
        due("hush of 2", x.beats(1), 0);
        due("nobody paid yet", x.count(8), 0);
        due("hush of 3", x.beats(1), 1);
        due("sold", x.book(0, 0), 0);
        due("paid", x.bidderOf(0, 2), 90);
        due("gone already", x.beats(1), 0);
        x.putUp();
        due("all beats pass", x.beats(50), 1);
        due("without a bid", x.book(0, 0), 2);
        due("beats so far", x.count(0), 56);
        x.putUp();
        x.beats(2);
        x.set(2, 2);
        due("a lower setting is no hammer by itself", x.count(3), 1);
        x.cough(0);
        x.beats(1);
        due("a bid ends the hush", x.up(5), 0);
        x.set(2, 1);
        due("the hammer falls at once", x.beats(1), 1);
        due("for 30", x.book(0, 1), 30);
        x.putUp();
        due("a fresh lot's first hush", x.beats(1), 1);
    }

    /** A bid on a lot that is withdrawn is none on the next one, which is put up in the same beat. */
    private static void promise8HushOfTheNextLot() {
        CoughBids x = new CoughBids();
        x.bidder(0, 0, 100, 1);
        x.catches(0, 2);
        x.set(1, 1);
        x.set(0, 1);
        x.lot(1, 1);
        x.lot(2, 1);
        x.putUp();
        due("withdrawn", x.cough(0), 1);
        x.catches(0, 0);
        x.putUp();
        x.beats(1);
        due("hush of the next lot", x.up(5), 1);
    }

    private static void promise8Colds() {
        for (int cold = 0; cold <= 5; cold++) {
            CoughBids x = new CoughBids();
            x.bidder(5, 0, 0, 1);
            x.bidder(5, 1, 0, 1);
            x.bidder(5, 2, 0, 1);
            x.catches(2, cold);
            x.set(2, 9);
            int coughs = 0;
            for (int beat = 0; beat < 36; beat++) {
                if (x.count(3) == 0) {
                    x.lot(99, 1);
                    x.putUp();
                }
                boolean due = cold > 0 && (beat + 2) % (7 - cold) == 0;
                coughs += due ? 1 : 0;
                due("coughing", x.coughing(), due ? 4 : 0);
                x.beats(1);
                due("cold " + cold + " at " + beat, x.bidderOf(2, 7), coughs);
            }
        }
        CoughBids x = new CoughBids();
        x.bidder(0, 0, 100, 9);
        x.catches(0, 5);
        x.beats(50);
        due("nobody coughs for a cold when no lot is up", x.count(10), 0);
    }

    private static void promise8ColdBids() {
        CoughBids x = new CoughBids();
        x.bidder(0, 0, 100, 9);
        x.bidder(0, 2, 100, 9);
        x.bidder(0, 4, 100, 9);
        x.catches(0, 5);
        x.catches(2, 5);
        x.lot(10, 5);
        x.putUp();
        x.beats(1);
        due("by the numbers, 0 and then 2", x.up(3), 2);
        due("bids", x.up(7), 2);
        due("asked", x.up(6), 20);
        due("for a cold", x.up(8), 1);
        x.catches(0, 0);
        x.catches(2, 0);
        due("a cold that is gone does not buy", x.beats(3), 1);
        due("not sold", x.book(0, 0), 3);
        due("latest bid", x.book(0, 1), 15);
        due("bidder of it", x.book(0, 2), 2);
        due("count(18)", x.count(18), 1);
        due("count(5)", x.count(5), 0);
        due("nobody pays", x.bidderOf(2, 2), 100);
        x.lot(10, 5);
        x.putUp();
        x.catches(1, 1);
        x.cough(1);
        due("a cough of one with a cold, by itself", x.beats(4), 1);
        due("buys", x.book(0, 0), 0);
    }

    private static void promise8Withdrawn() {
        CoughBids x = new CoughBids();
        for (int i = 0; i < 4; i++) {
            x.bidder(i == 2 ? 1 : 0, i * 2, 500, 3);
            x.catches(i, i % 2 == 0 ? 5 : 0);
        }
        x.set(1, 2);
        x.lot(10, 10);
        x.putUp();
        x.catches(3, 4);
        due("beats(1)", x.beats(1), 1);
        due("withdrawn", x.book(0, 0), 1);
        due("doubts", x.book(0, 3), 2);
        due("bids", x.book(0, 4), 2);
        due("those behind cough all the same", x.bidderOf(3, 7), 1);
        due("but bid nothing", x.bidderOf(3, 8), 0);
        due("coughs", x.count(10), 3);
        due("no more in later beats", x.beats(6), 0);
        due("coughs still", x.count(10), 3);
        due("a withdrawn one is not sold", x.count(5) + x.count(7) + x.count(18), 0);
    }

    private static void promise9Night() {
        CoughBids x = new CoughBids();
        due("night without bidders", x.night(), 0);
        for (int seat = 0; seat < 5; seat++) {
            x.bidder(0, seat, 10, 5);
        }
        x.bidder(1, 0, 10, 5);
        x.bidder(0, 7, 10, 5);
        x.catches(0, 2);
        x.catches(6, 1);
        due("beside a cold", x.night(), 2);
        due("0 gets better", x.bidderOf(0, 4), 1);
        due("1 catches", x.bidderOf(1, 4), 1);
        due("2 only by the next", x.bidderOf(2, 4), 0);
        due("another row", x.bidderOf(5, 4), 0);
        due("0 at least", x.bidderOf(6, 4), 0);
        due("colds of 1 are not caught", x.night(), 0);
        x.catches(2, 5);
        x.catches(3, 5);
        due("both sides", x.night(), 4);
        int[] colds = {0, 1, 5, 5, 1, 0, 0};
        for (int i = 0; i < 7; i++) {
            due("5 at most: " + i, x.bidderOf(i, 4), colds[i]);
        }
        x.muffle(2, 4);
        x.muffle(3, 3);
        due("muffled", x.night(), 3);
        int[] later = {0, 0, 5, 4, 2, 0, 0};
        for (int i = 0; i < 7; i++) {
            due("muffled: " + i, x.bidderOf(i, 4), later[i]);
        }
        due("nights so far", x.count(14), 5);
        x.lot(1, 1);
        due("a lot that waits", x.night(), 3);
        due("caught behind a muffler", x.bidderOf(3, 4), 5);
        x.putUp();
        due("a lot is up", x.night(), NOT_POSSIBLE);
        due("nights so far", x.count(14), 6);
    }

    private static void promise9FirstAndLast() {
        CoughBids x = new CoughBids();
        x.bidder(5, 7, 0, 1);
        x.bidder(5, 6, 0, 1);
        x.bidder(5, 5, 0, 1);
        x.catches(1, 3);
        due("both beside it", x.night(), 3);
        due("the first", x.bidderOf(0, 4), 1);
        due("itself", x.bidderOf(1, 4), 2);
        due("the last", x.bidderOf(2, 4), 1);
    }

    private static void promise9Limit() {
        CoughBids x = new CoughBids();
        Due.type(x, "n;n;n;n;n;n;n;n;n;n;n;n;n;n;n;n;n;n;n;n;n;n;n;n;n;n;n;n;n;n;");
        for (int i = 0; i < 33; i++) {
            due("30 nights", x.play(), 30);
        }
        for (int i = 0; i < 9; i++) {
            due("a night", x.night(), 0);
        }
        due("nights so far", x.count(14), 999);
        due("one more", x.night(), LIMIT);
        due("of the text", x.fault(2), LIMIT);
        due("at its first order", x.fault(0), 0);
        x.bidder(0, 0, 1, 1);
        x.catches(0, 5);
        due("told beyond the limit", x.ifNights(4), 1);
        x.lot(1, 1);
        x.putUp();
        due("a lot that is up goes first", x.night(), NOT_POSSIBLE);
    }

    private static void promise17IfBeats() {
        CoughBids x = new CoughBids();
        for (int extreme : EXTREMES) {
            due("ifBeats extreme", x.ifBeats(extreme, 0), INVALID);
        }
        due("ifBeats(51, 0)", x.ifBeats(51, 0), INVALID);
        due("ifBeats(1, 4)", x.ifBeats(1, 4), INVALID);
        due("ifBeats(1, -1)", x.ifBeats(1, -1), INVALID);
        x.bidder(0, 0, 100, 5);
        x.bidder(0, 1, 100, 4);
        x.lot(10, 7);
        x.lot(20, 1);
        x.catches(1, 5);
        for (int what = 0; what <= 3; what++) {
            due("none is up", x.ifBeats(50, what), 0);
        }
        x.putUp();
        x.cough(0);
        due("no bid at 0", x.ifBeats(1, 0), 0);
        due("a bid at 1", x.ifBeats(2, 0), 1);
        due("one alone", x.ifBeats(50, 0), 1);
        due("a doubt", x.ifBeats(50, 1), 1);
        due("not sold", x.ifBeats(50, 2), 0);
        due("not paid", x.ifBeats(50, 3), 0);
        x.catches(1, 0);
        due("not yet", x.ifBeats(3, 2), 0);
        due("sold", x.ifBeats(4, 2), 1);
        due("paid", x.ifBeats(4, 3), 10);
        due("nothing before it", x.ifBeats(3, 3), 0);
        due("a lot that waits is not sold", x.ifBeats(50, 2), 1);
        due("it only tells", x.count(0) + x.count(5) + x.count(8), 0);
        due("no state for it", x.count(16), 4);
        x.beats(4);
        due("coins of the past are not told", x.ifBeats(4, 3), 0);
        due("nor bids of the past", x.ifBeats(4, 0), 0);
        due("nor lots of the past", x.ifBeats(4, 2), 0);
    }

    private static void promise17Doubts() {
        CoughBids x = new CoughBids();
        x.bidder(0, 0, 100, 3);
        x.bidder(0, 2, 100, 9);
        x.catches(0, 4);
        x.lot(10, 1);
        x.putUp();
        x.cough(0);
        x.cough(1);
        due("a doubt already", x.count(12), 1);
        due("one at 0", x.ifBeats(1, 1), 1);
        due("one alone", x.ifBeats(50, 1), 1);
        x.cough(0);
        x.cough(1);
        due("withdrawn in the first", x.ifBeats(50, 1), 1);
        due("bids in it", x.ifBeats(50, 0), 1);
        due("not sold", x.ifBeats(50, 2), 0);
        due("behind a beat", x.goneIn(), 1);
    }

    private static void promise17BeyondTheLimit() {
        CoughBids x = new CoughBids();
        x.bidder(0, 0, 100, 5);
        x.lot(10, 7);
        Due.retype(x, "b50;b50;b50;b50;b50;b50;b50;b50;b50;b50;b50;b50;b50;b50;b50;");
        for (int i = 0; i < 13; i++) {
            x.play();
        }
        Due.play(x, "b50;b50;b50;b50;b49;");
        due("beats so far", x.count(0), 9999);
        x.putUp();
        x.cough(0);
        due("ifBeats beyond the limit", x.ifBeats(50, 3), 10);
        due("goneIn beyond the limit", x.goneIn(), 4);
        x.catches(0, 5);
        due("coughing beyond the limit", x.coughing(), 0);
        x.catches(0, 4);
        due("coughing beyond the limit, in thirds", x.coughing(), 1);
    }

    private static void promise18GoneIn() {
        CoughBids x = new CoughBids();
        due("none is up", x.goneIn(), NOT_POSSIBLE);
        x.lot(1, 1);
        due("one that waits", x.goneIn(), NOT_POSSIBLE);
        x.putUp();
        due("hush alone", x.goneIn(), 3);
        x.set(2, 9);
        due("a longer hush", x.goneIn(), 9);
        x.beats(4);
        due("fewer are left", x.goneIn(), 5);
        x.bidder(0, 0, 999, 9);
        x.bidder(0, 2, 999, 9);
        x.catches(0, 5);
        x.catches(1, 5);
        due("bid upon bid", x.goneIn(), NOT_FOUND);
        due("it only tells", x.count(0), 4);
        due("the lot stays up", x.count(3), 1);
    }

    /** Two with colds bid by turns until their purses are empty, so that the beat can be chosen. */
    private static void promise18Within200() {
        for (int purse = 180; purse <= 205; purse++) {
            CoughBids x = new CoughBids();
            x.bidder(0, 0, purse, 9);
            x.bidder(0, 2, purse, 9);
            x.catches(0, 5);
            x.catches(1, 5);
            x.lot(1, 1);
            x.putUp();
            int beats = purse + 3;
            due("goneIn of " + purse, x.goneIn(), beats <= 200 ? beats : NOT_FOUND);
        }
    }

    private static void promise19Coughing() {
        CoughBids x = new CoughBids();
        due("without bidders", x.coughing(), 0);
        for (int i = 0; i < 12; i++) {
            x.bidder(i / 8, i % 8, 0, 1);
        }
        due("without colds", x.coughing(), 0);
        for (int i = 0; i < 12; i++) {
            x.catches(i, 5);
        }
        due("every second", x.coughing(), 0x555);
        x.catches(0, 0);
        due("one gets well", x.coughing(), 0x554);
        x.beats(1);
        due("the others", x.coughing(), 0xAAA);
        for (int i = 0; i < 12; i++) {
            x.catches(i, 1);
        }
        due("every sixth", x.coughing(), 0x820);
        due("it only tells", x.count(10), 0);
    }

    private static void promise21IfNights() {
        CoughBids x = new CoughBids();
        for (int extreme : EXTREMES) {
            due("ifNights extreme", x.ifNights(extreme), INVALID);
        }
        due("ifNights(21)", x.ifNights(21), INVALID);
        due("without bidders", x.ifNights(20), 0);
        for (int seat = 0; seat < 8; seat++) {
            x.bidder(3, seat, 1, 1);
        }
        x.catches(0, 5);
        int[] told = new int[21];
        for (int nights = 1; nights <= 20; nights++) {
            told[nights] = x.ifNights(nights);
        }
        due("it only tells", x.count(14) + x.bidderOf(1, 4), 0);
        for (int nights = 1; nights <= 20; nights++) {
            due("night " + nights, x.night(), told[nights]);
        }
        x.catches(0, 5);
        x.lot(1, 1);
        x.putUp();
        due("while a lot is up", x.ifNights(1) > 0 ? 1 : 0, 1);
    }

    public static void main(String[] args) {
        promise8Errors();
        promise8Hush();
        promise8HushOfTheNextLot();
        promise8Colds();
        promise8ColdBids();
        promise8Withdrawn();
        promise9Night();
        promise9FirstAndLast();
        promise9Limit();
        promise17IfBeats();
        promise17Doubts();
        promise17BeyondTheLimit();
        promise18GoneIn();
        promise18Within200();
        promise19Coughing();
        promise21IfNights();
        Due.end("BeatsTest");
    }
}
