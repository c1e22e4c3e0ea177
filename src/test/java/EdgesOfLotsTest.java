/** Edges of the sections "Lots" and "The book", and of the promises 5 to 7 and 13 to 16. */
public final class EdgesOfLotsTest {
    private static final int INVALID = CoughBids.INVALID_ARGUMENT;
    private static final int NOT_POSSIBLE = CoughBids.NOT_POSSIBLE;
    private static final int LIMIT = CoughBids.LIMIT_REACHED;
    private static final int NOT_FOUND = CoughBids.NOT_FOUND;

    private EdgesOfLotsTest() {
    }

    private static void due(String call, int got, int want) {
        Due.due(call, got, want);
    }

    // ---- lots that wait

    private static void atMostEight() {
        Due.sentence("There are at most 8 lots that wait, in the order in which they came");
        CoughBids x = new CoughBids();
        for (int i = 1; i <= 8; i++) {
            due("lot " + i, x.lot(10 * i, i), i);
        }
        due("the ninth", x.lot(90, 9), LIMIT);
        due("8 wait", x.count(2), 8);
        due("8 came", x.count(4), 8);
        for (int place = 0; place < 8; place++) {
            due("reserve at " + place, x.waiting(place, 0), 10 * (place + 1));
            due("step at " + place, x.waiting(place, 1), place + 1);
        }
        due("the first goes up first", x.putUp(), 10);
        due("room for one", x.lot(90, 9), 8);
        due("and not for two", x.lot(91, 9), LIMIT);
        due("it is the last", x.waiting(7, 0), 90);
    }

    /** Far more lots than can wait at once, so that every place is used again and again. */
    private static void longRow() {
        Due.sentence("lots that wait, in the order in which they came");
        CoughBids x = new CoughBids();
        x.set(2, 1);
        int next = 1;
        for (int i = 1; i <= 8; i++) {
            x.lot(i, 1);
        }
        for (int came = 9; came <= 40; came++) {
            due("put up", x.putUp(), next);
            x.beats(1);
            due("comes to the end", x.lot(came, 1), 8);
            next++;
            due("the next", x.waiting(0, 0), next);
            due("the last", x.waiting(7, 0), came);
        }
        for (; next <= 40; next++) {
            due("put up", x.putUp(), next);
            x.beats(1);
        }
        due("none waits", x.putUp(), NOT_POSSIBLE);
        due("came so far", x.count(4), 40);
    }

    /** As many wait as can, and as many are in the book as can: all that holds lots is used again. */
    private static void fullRowAndBook() {
        Due.sentence("it has no bid, no doubts and a hush of 0 then; the latest 8 are kept");
        CoughBids x = Scenes.strong(9, 4);
        x.set(1, 1);
        for (int i = 1; i <= 8; i++) {
            x.lot(7, 3);
        }
        Due.type(x, "b5;u;l7,3;");
        int[] fresh = {NOT_FOUND, NOT_FOUND, 0, 0, 7, 0, 0};
        int fate = 0;
        int bid = 0;
        for (int i = 1; i <= 30; i++) {
            due("one goes, one is put up, one comes", x.play(), 3);
            due("how it went", x.book(0, 0), i == 1 ? NOT_FOUND : fate);
            due("its latest bid", x.book(0, 1), i == 1 ? NOT_FOUND : bid);
            for (int what = 2; what <= 8; what++) {
                due("lot " + i + ": up(" + what + ")", x.up(what), fresh[what - 2]);
            }
            x.beats(1);
            due("lot " + i + ": hush without a bid", x.up(5), 1);
            fate = i * 7 / 5 % 4;
            bid = bidToGoBy(x, fate);
        }
    }

    private static int bidToGoBy(CoughBids x, int fate) {
        int cold = fate == 3 ? 0 : 1;
        x.catches(cold, fate == 1 || fate == 3 ? 5 : 0);
        int bid = fate == 2 ? 0 : 7;
        if (fate == 3) {
            x.beats(2);
        } else if (fate < 2) {
            due("the bid", x.cough(fate), bid);
        }
        x.catches(cold, 0);
        return bid;
    }

    private static void lotRanges() {
        Due.sentence("lot: reserve 1 to 99, step 1 to 20; INVALID_ARGUMENT if an argument is out of "
            + "range; LIMIT_REACHED if 8 wait");
        CoughBids x = new CoughBids();
        Due.outside("reserve", 1, 99, reserve -> x.lot(reserve, 10));
        Due.outside("step", 1, 20, step -> x.lot(10, step));
        due("none came", x.count(4), 0);
        due("all least", x.lot(1, 1), 1);
        due("all most", x.lot(99, 20), 2);
        due("least reserve", x.waiting(0, 0), 1);
        due("least step", x.waiting(0, 1), 1);
        due("most reserve", x.waiting(1, 0), 99);
        due("most step", x.waiting(1, 1), 20);
        for (int i = 3; i <= 8; i++) {
            x.lot(i, i);
        }
        due("no reserve, with 8", x.lot(0, 10), INVALID);
        due("too large a step, with 8", x.lot(10, 21), INVALID);
        due("all in range, with 8", x.lot(10, 10), LIMIT);
    }

    private static void waitingPlaces() {
        Due.sentence("waiting: INVALID_ARGUMENT if an argument is out of range (place is not below 0); "
            + "NOT_FOUND if there are not so many");
        CoughBids x = new CoughBids();
        due("none at all", x.waiting(0, 0), NOT_FOUND);
        x.lot(4, 5);
        due("the only one", x.waiting(0, 1), 5);
        due("the one behind", x.waiting(1, 1), NOT_FOUND);
        Due.outside("what", 0, 1, what -> x.waiting(0, what));
        due("what out of range, where none is", x.waiting(1, 2), INVALID);
        due("place below 0", x.waiting(-1, 0), INVALID);
        due("place far below 0", x.waiting(Integer.MIN_VALUE, 0), INVALID);
        due("place far behind", x.waiting(Integer.MAX_VALUE, 0), NOT_FOUND);
        due("place of 8 is in range", x.waiting(8, 0), NOT_FOUND);
        x.putUp();
        due("the one that is up waits no more", x.waiting(0, 0), NOT_FOUND);
    }

    // ---- the lot that is up

    private static void putUpErrors() {
        Due.sentence("putUp: NOT_POSSIBLE if one is up, or none waits");
        CoughBids x = new CoughBids();
        due("none up, none waits", x.putUp(), NOT_POSSIBLE);
        x.lot(10, 1);
        x.lot(11, 1);
        due("none up, two wait", x.putUp(), 10);
        due("one up, one waits", x.putUp(), NOT_POSSIBLE);
        x.beats(3);
        due("none up, one waits", x.putUp(), 11);
        due("one up, none waits", x.putUp(), NOT_POSSIBLE);
        x.beats(3);
        due("all are gone", x.putUp(), NOT_POSSIBLE);
    }

    /** The lot before it went with bids, doubts and a hush, in each way that a lot can go. */
    private static void freshWhenPutUp() {
        Due.sentence("it has no bid, no doubts and a hush of 0 then");
        int[] fresh = {7, 2, NOT_FOUND, NOT_FOUND, 0, 0, 7, 0, 0};
        for (int fate = 0; fate <= 3; fate++) {
            CoughBids x = Scenes.strong(9, 4);
            Scenes.putUp(x, 10, 5);
            goBy(x, fate);
            due("how it went", x.book(0, 0), fate);
            Scenes.putUp(x, 7, 2);
            for (int what = 0; what <= 8; what++) {
                due("up(" + what + ") behind " + fate, x.up(what), fresh[what]);
            }
        }
    }

    private static void goBy(CoughBids x, int fate) {
        x.catches(1, fate == 1 || fate == 3 ? 5 : 0);
        if (fate == 1) {
            x.set(1, 1);
            x.cough(1);
        } else if (fate == 3) {
            x.beats(5);
        } else {
            if (fate == 0) {
                x.cough(1);
                x.cough(0);
            }
            x.beats(4);
        }
    }

    private static void upNumbers() {
        Due.sentence("up: INVALID_ARGUMENT if what is out of range; NOT_POSSIBLE if no lot is up; "
            + "NOT_FOUND for 2 and 3 without a bid");
        CoughBids x = Scenes.strong(9);
        Due.outside("what, none up", 0, 8, x::up);
        for (int what = 0; what <= 8; what++) {
            due("none up: " + what, x.up(what), NOT_POSSIBLE);
        }
        Scenes.putUp(x, 10, 5);
        Due.outside("what", 0, 8, x::up);
        for (int what = 0; what <= 8; what++) {
            boolean needsBid = what == 2 || what == 3;
            due("without a bid: " + what, x.up(what) == NOT_FOUND ? 1 : 0, needsBid ? 1 : 0);
        }
        x.cough(0);
        due("the bid", x.up(2), 10);
        due("bidder 0", x.up(3), 0);
        x.beats(9);
        due("gone", x.up(2), NOT_POSSIBLE);
    }

    private static void whatIsAsked() {
        Due.sentence("What is asked is the reserve, and with a bid the latest bid and the step, "
            + "together");
        CoughBids x = Scenes.strong(9, 9);
        Scenes.putUp(x, 99, 20);
        int bidder = 0;
        for (int asked = 99; asked <= 999; asked += 20) {
            due("asked", x.up(6), asked);
            due("bid, at last of the largest purse", x.cough(bidder), asked);
            bidder = 1 - bidder;
        }
        due("more than any purse", x.up(6), 1019);
        due("is no bid", x.cough(bidder), 0);
        due("for the purse", x.why(bidder), 4);
    }

    // ---- coughs

    private static void firstOfTheReasons() {
        Due.sentence("A cough is no bid for the first of these reasons that is so");
        CoughBids x = new CoughBids();
        x.bidder(0, 0, 10, 5);
        x.bidder(5, 1, 0, 1);
        due("1 ahead of 4", x.why(0), 1);
        due("1 ahead of 2 and 4", x.why(1), 1);
        Scenes.putUp(x, 10, 5);
        due("2 ahead of 4", x.why(1), 2);
        due("none", x.why(0), 0);
        due("the bid", x.cough(0), 10);
        due("3 ahead of 4", x.why(0), 3);
        x.set(0, 9);
        due("2 ahead of 3 and 4", x.why(0), 2);
        x.beats(9);
        due("1 ahead of 2 and 4, as it is gone", x.why(0), 1);
    }

    private static void oneReasonAlone() {
        Due.sentence("1 no lot is up; 2 it is not heard; 3 the latest bid is by this bidder; 4 the "
            + "purse is less than what is asked");
        CoughBids x = Scenes.strong(9, 9);
        x.bidder(0, 7, 11, 9);
        due("1 alone", x.why(0), 1);
        x.lot(10, 1);
        due("1 alone, though one waits", x.why(0), 1);
        x.putUp();
        x.muffle(0, 5);
        x.set(0, 5);
        due("2 alone", x.why(0), 2);
        x.set(0, 4);
        due("none", x.why(0), 0);
        x.cough(0);
        due("3 alone", x.why(0), 3);
        due("11 coins for 11", x.why(2), 0);
        x.cough(1);
        due("not the latest any more", x.why(0), 0);
        due("4 alone: 11 coins for 12", x.why(2), 4);
    }

    private static void noBid() {
        Due.sentence("cough: Returns the bid, 0 if it is none; INVALID_ARGUMENT");
        CoughBids x = Scenes.full();
        Due.outside("bidder", 0, 11, x::cough);
        Due.outside("bidder of why", 0, 11, x::why);
        due("errors are no coughs", x.count(10), 0);
        due("0 without a lot", x.cough(11), 0);
        Scenes.putUp(x, 99, 1);
        due("the bid", x.cough(11), 99);
        due("0 by this bidder", x.cough(11), 0);
        due("a bid of the whole purse", x.cough(10), 100);
        due("0 with too little", x.cough(11), 0);
        due("coughs", x.count(10), 5);
        due("bids", x.count(11), 2);
        due("coughs of the last bidder", x.bidderOf(11, 7), 4);
        due("bids of the last bidder", x.bidderOf(11, 8), 1);
    }

    private static void purseOfAll() {
        Due.sentence("4 the purse is less than what is asked");
        CoughBids x = new CoughBids();
        x.bidder(0, 0, 0, 9);
        x.bidder(0, 1, 1, 9);
        Scenes.putUp(x, 1, 1);
        due("0 coins for 1", x.cough(0), 0);
        due("0 coins for 1: why", x.why(0), 4);
        due("1 coin for 1", x.cough(1), 1);
        x.beats(4);
        due("sold", x.count(5), 1);
        due("the purse is empty", x.bidderOf(1, 2), 0);
        Scenes.putUp(x, 1, 1);
        due("with the empty purse", x.why(1), 4);
    }

    /** A lot that is gone is by no bidder, so that its latest one may bid on the next. */
    private static void latestOnThisLot() {
        Due.sentence("3 the latest bid is by this bidder");
        CoughBids x = Scenes.strong(9);
        Scenes.putUp(x, 1, 1);
        x.cough(0);
        x.beats(4);
        Scenes.putUp(x, 1, 1);
        due("on the next lot", x.why(0), 0);
        due("bidder 0 without a bid", x.cough(0), 1);
    }

    private static void coldMoreThanStrength() {
        Due.sentence("If the cold of the bidder is more than the strength, the bid is doubtful");
        for (int strength = 1; strength <= 6; strength++) {
            for (int cold = 0; cold <= 5; cold++) {
                CoughBids x = Scenes.strong(strength);
                x.set(0, 1);
                x.catches(0, cold);
                Scenes.putUp(x, 1, 1);
                x.cough(0);
                String told = "doubts by cold " + cold + " and strength " + strength;
                due(told, x.up(4), cold > strength ? 1 : 0);
                due(told, x.count(12), cold > strength ? 1 : 0);
            }
        }
    }

    private static void withdrawnAtSetting1() {
        Due.sentence("with setting 1 doubts, or more, it is withdrawn: it is not sold");
        for (int setting = 1; setting <= 9; setting++) {
            CoughBids x = Scenes.strong(2, 2);
            x.set(1, setting);
            x.catches(0, 3);
            x.catches(1, 3);
            Scenes.putUp(x, 1, 1);
            for (int doubts = 1; doubts < setting; doubts++) {
                x.cough(doubts % 2);
                due("fewer doubts than " + setting, x.count(3), 1);
            }
            due("the last bid", x.cough(setting % 2), setting);
            due("withdrawn at " + setting, x.count(3), 0);
            due("withdrawn", x.count(6), 1);
            due("the book", x.book(0, 0), 1);
            due("doubts in the book", x.book(0, 3), setting);
            due("not sold", x.count(5) + x.count(7) + x.count(18), 0);
            due("nobody paid", x.count(8) + x.count(9), 0);
        }
    }

    private static void orMoreDoubts() {
        Due.sentence("with setting 1 doubts, or more");
        CoughBids x = Scenes.strong(2, 2);
        x.catches(0, 3);
        x.catches(1, 3);
        x.set(1, 9);
        Scenes.putUp(x, 1, 1);
        for (int i = 0; i < 4; i++) {
            x.cough(i % 2);
        }
        x.set(1, 1);
        due("4 doubts, and setting 1 is 1: up until the next", x.count(3), 1);
        due("the next", x.cough(0), 5);
        due("withdrawn", x.book(0, 3), 5);
    }

    private static void noDoubtOfNoBid() {
        Due.sentence("Otherwise it is a bid of what is asked. If the cold is more than the strength, "
            + "the bid is doubtful");
        CoughBids x = Scenes.strong(2);
        x.set(1, 1);
        x.catches(0, 5);
        x.bidder(0, 7, 0, 2);
        x.catches(1, 5);
        Scenes.putUp(x, 1, 1);
        due("a cough that is no bid", x.cough(1), 0);
        due("is no doubt", x.count(12), 0);
        due("and withdraws nothing", x.count(3), 1);
    }

    // ---- the book

    private static void bookOfEight() {
        Due.sentence("The latest 8 are kept");
        CoughBids x = new CoughBids();
        x.bidder(0, 0, 999, 9);
        x.bidder(0, 2, 999, 9);
        x.set(2, 1);
        for (int gone = 1; gone <= 20; gone++) {
            Scenes.putUp(x, gone, 1);
            x.cough(gone % 2);
            x.beats(2);
            int kept = Math.min(gone, 8);
            due("lots in the book", x.count(15), kept);
            due("the latest", x.book(0, 1), gone);
            due("bidder of the latest", x.book(0, 2), gone % 2);
            due("the oldest", x.book(kept - 1, 1), gone - kept + 1);
            due("one older", x.book(kept, 1), NOT_FOUND);
            due("sold so far", x.count(5), gone);
        }
    }

    private static void bookRanges() {
        Due.sentence("book: INVALID_ARGUMENT if an argument is out of range (ago is not below 0); "
            + "NOT_FOUND if there are not so many, for 2 without a bid");
        CoughBids x = new CoughBids();
        for (int what = 0; what <= 4; what++) {
            due("none in it: " + what, x.book(0, what), NOT_FOUND);
        }
        due("what out of range, none in it", x.book(0, 5), INVALID);
        Scenes.putUp(x, 1, 1);
        due("one that is up is not in it", x.book(0, 0), NOT_FOUND);
        x.beats(3);
        Due.outside("what", 0, 4, what -> x.book(0, what));
        due("ago below 0", x.book(-1, 0), INVALID);
        due("ago far below 0", x.book(Integer.MIN_VALUE, 0), INVALID);
        due("ago below 0, what out of range", x.book(-1, 5), INVALID);
        due("ago far off", x.book(Integer.MAX_VALUE, 0), NOT_FOUND);
        due("ago 1", x.book(1, 0), NOT_FOUND);
        int[] told = {2, 0, NOT_FOUND, 0, 0};
        for (int what = 0; what <= 4; what++) {
            due("without a bid: " + what, x.book(0, what), told[what]);
        }
    }

    private static void bookOfEachFate() {
        Due.sentence("0 sold, 1 withdrawn, 2 without a bid, 3 not sold as the latest bid was a cough "
            + "for a cold");
        int[][] told = {{0, 15, 0, 0, 2}, {1, 10, 1, 1, 1}, {2, 0, NOT_FOUND, 0, 0}, {3, 10, 1, 1, 1}};
        int[] counts = {5, 6, 7, 18};
        for (int fate = 0; fate <= 3; fate++) {
            CoughBids x = Scenes.strong(9, 4);
            Scenes.putUp(x, 10, 5);
            goBy(x, fate);
            for (int what = 0; what <= 4; what++) {
                due("book(0, " + what + ") of " + fate, x.book(0, what), told[fate][what]);
            }
            for (int other = 0; other <= 3; other++) {
                due("count(" + counts[other] + ")", x.count(counts[other]), other == fate ? 1 : 0);
            }
            due("paid", x.count(8), fate == 0 ? 15 : 0);
            x.set(0, 1);
            x.catches(0, 0);
            for (int what = 0; what <= 4; what++) {
                due("book(0, " + what + ") stays", x.book(0, what), told[fate][what]);
            }
        }
    }

    public static void main(String[] args) {
        atMostEight();
        longRow();
        fullRowAndBook();
        lotRanges();
        waitingPlaces();
        putUpErrors();
        freshWhenPutUp();
        upNumbers();
        whatIsAsked();
        firstOfTheReasons();
        oneReasonAlone();
        noBid();
        purseOfAll();
        latestOnThisLot();
        coldMoreThanStrength();
        withdrawnAtSetting1();
        orMoreDoubts();
        noDoubtOfNoBid();
        bookOfEight();
        bookRanges();
        bookOfEachFate();
        Due.end("EdgesOfLotsTest");
    }
}
