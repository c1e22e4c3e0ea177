/**
 * A shadow auction where bids are coughs.
 *
 * A change is tried on a spare auction and kept only when it answers no error, so a call that
 * returns an error can change nothing, and what would be is told from the same spare.
 */
public final class CoughBids {
    public static final int INVALID_ARGUMENT = -1000001;
    public static final int NOT_POSSIBLE = -1000002;
    public static final int LIMIT_REACHED = -1000003;
    public static final int NOT_FOUND = -1000004;

    private static final int MOST_STATES = 4;
    private static final int MOST_BEATS_AHEAD = 200;
    private static final int MOST_NIGHTS_AHEAD = 20;

    /** Places from 0 to recorded - 1 hold the history, the oldest first; the others are spare. */
    private final Auction[] history;
    private final Script script;
    private int recorded;
    private Auction now;
    private Auction trial;

    public CoughBids() {
        history = new Auction[MOST_STATES];
        for (int i = 0; i < history.length; i++) {
            history[i] = new Auction();
        }
        script = new Script();
        recorded = 0;
        now = new Auction();
        trial = new Auction();
    }

    // ---- bidders

    public int bidder(int row, int seat, int purse, int strength) {
        trial.copyFrom(now);
        return keep(trial.seatBidder(row, seat, purse, strength));
    }

    public int catches(int bidder, int cold) {
        trial.copyFrom(now);
        return keep(trial.changeCold(bidder, cold));
    }

    public int muffle(int bidder, int muffler) {
        trial.copyFrom(now);
        return keep(trial.changeMuffler(bidder, muffler));
    }

    // ---- lots, coughs

    public int lot(int reserve, int step) {
        trial.copyFrom(now);
        return keep(trial.addLot(reserve, step));
    }

    public int putUp() {
        trial.copyFrom(now);
        return keep(trial.raiseNextLot());
    }

    public int cough(int bidder) {
        trial.copyFrom(now);
        return keep(trial.takeCough(bidder, false));
    }

    public int beats(int many) {
        trial.copyFrom(now);
        return keep(trial.passBeats(many));
    }

    public int night() {
        trial.copyFrom(now);
        return keep(trial.passNight());
    }

    public int set(int what, int value) {
        trial.copyFrom(now);
        return keep(trial.changeSetting(what, value));
    }

    // ---- what there is

    public int bidderOf(int bidder, int what) {
        if (!now.hasBidder(bidder)) {
            return INVALID_ARGUMENT;
        }
        return now.bidders[bidder].tell(what);
    }

    public int at(int row, int seat) {
        if (!isSeat(row, seat)) {
            return INVALID_ARGUMENT;
        }
        return now.findSeated(row, seat);
    }

    public int up(int what) {
        if (!isWithin(what, 0, 8)) {
            return INVALID_ARGUMENT;
        }
        if (!now.isUp) {
            return NOT_POSSIBLE;
        }
        return now.raised.tellUp(what);
    }

    public int waiting(int place, int what) {
        if (place < 0 || !isWithin(what, 0, 1)) {
            return INVALID_ARGUMENT;
        }
        if (place >= now.waitingCount) {
            return NOT_FOUND;
        }
        Lot lot = now.queue[place];
        return what == 0 ? lot.reserve : lot.step;
    }

    public int book(int ago, int what) {
        if (ago < 0 || !isWithin(what, 0, 4)) {
            return INVALID_ARGUMENT;
        }
        if (ago >= now.goneCount) {
            return NOT_FOUND;
        }
        return now.gone[ago].tellGone(what);
    }

    // ---- what would be

    public int why(int bidder) {
        if (!now.hasBidder(bidder)) {
            return INVALID_ARGUMENT;
        }
        return now.reasonAgainst(bidder);
    }

    public int ifBeats(int many, int what) {
        if (!isWithin(many, 1, Auction.MOST_BEATS_A_CALL) || !isWithin(what, 0, 3)) {
            return INVALID_ARGUMENT;
        }
        trial.copyFrom(now);
        for (int i = 0; i < many; i++) {
            trial.passBeat();
        }
        switch (what) {
            case 0:
                return trial.bids - now.bids;
            case 1:
                return trial.doubts - now.doubts;
            case 2:
                return trial.fates[Lot.SOLD] - now.fates[Lot.SOLD];
            default:
                return trial.coinsPaid - now.coinsPaid;
        }
    }

    public int goneIn() {
        if (!now.isUp) {
            return NOT_POSSIBLE;
        }
        trial.copyFrom(now);
        for (int passed = 1; passed <= MOST_BEATS_AHEAD; passed++) {
            trial.passBeat();
            if (!trial.isUp) {
                return passed;
            }
        }
        return NOT_FOUND;
    }

    public int coughing() {
        int found = 0;
        for (int i = 0; i < now.bidderCount; i++) {
            if (now.isDueToCough(i)) {
                found |= 1 << i;
            }
        }
        return found;
    }

    public int loudest() {
        int found = NOT_FOUND;
        int most = 0;
        for (int i = 0; i < now.bidderCount; i++) {
            int loudness = now.bidders[i].loudness();
            if (found == NOT_FOUND || loudness > most) {
                found = i;
                most = loudness;
            }
        }
        return found;
    }

    public int ifNights(int nights) {
        if (!isWithin(nights, 1, MOST_NIGHTS_AHEAD)) {
            return INVALID_ARGUMENT;
        }
        trial.copyFrom(now);
        for (int i = 0; i < nights; i++) {
            trial.spreadColds();
        }
        return Integer.bitCount(trial.bidderSetWithCold());
    }

    public int mean() {
        int sold = now.fates[Lot.SOLD];
        if (sold == 0) {
            return NOT_FOUND;
        }
        return bitsOf((float) now.coinsPaid / (float) sold);
    }

    public int count(int what) {
        switch (what) {
            case 16:
                return recorded;
            case 17:
                return script.length;
            default:
                return now.total(what);
        }
    }

    public int undo() {
        if (recorded == 0) {
            return NOT_POSSIBLE;
        }
        recorded--;
        Auction restored = history[recorded];
        history[recorded] = now;
        now = restored;
        return recorded;
    }

    // ---- texts

    public int type(int character) {
        return script.append(character);
    }

    public int clearText() {
        int before = script.length;
        script.length = 0;
        return before;
    }

    public int fault(int what) {
        if (!isWithin(what, 0, 2)) {
            return INVALID_ARGUMENT;
        }
        trial.copyFrom(now);
        script.performOn(trial);
        if (!script.hasFault()) {
            return NOT_FOUND;
        }
        switch (what) {
            case 0:
                return script.faultPosition;
            case 1:
                return script.faultReason;
            default:
                return script.faultCause;
        }
    }

    public int play() {
        trial.copyFrom(now);
        script.performOn(trial);
        return keep(script.hasFault() ? NOT_POSSIBLE : script.ordersDone);
    }

    // ---- the history

    /** Makes the trial the present state, unless its answer is an error; hands the answer on. */
    private int keep(int answer) {
        if (answer < 0) {
            return answer;
        }
        if (recorded == MOST_STATES) {
            dropOldest();
        }
        Auction spare = history[recorded];
        history[recorded] = now;
        recorded++;
        now = trial;
        trial = spare;
        return answer;
    }

    private void dropOldest() {
        Auction oldest = history[0];
        for (int i = 1; i < history.length; i++) {
            history[i - 1] = history[i];
        }
        history[history.length - 1] = oldest;
        recorded--;
    }

    // ---- numbers

    private static boolean isWithin(int value, int least, int most) {
        return value >= least && value <= most;
    }

    private static boolean isSeat(int row, int seat) {
        return isWithin(row, 0, 5) && isWithin(seat, 0, 7);
    }

    /**
     * The bits of a float of 1 or more: the mean is never less, as each lot that is sold costs its
     * reserve at least. Halving, and taking 1 from what lies from 1 to 2, lose no bit.
     */
    private static int bitsOf(float value) {
        float rest = value;
        int exponent = 0;
        for (; exponent < 127 && rest >= 2.0f; exponent++) {
            rest = rest / 2.0f;
        }
        int fraction = (int) ((rest - 1.0f) * 8388608.0f);
        return ((127 + exponent) << 23) + fraction;
    }

    private static final class Bidder {
        private int row;
        private int seat;
        private int purse;
        private int purseAtFirst;
        private int strength;
        private int cold;
        private int muffler;
        private int coughs;
        private int bids;
        private int lotsBought;
        private int coinsPaid;

        void sitDown(int newRow, int newSeat, int newPurse, int newStrength) {
            row = newRow;
            seat = newSeat;
            purse = newPurse;
            purseAtFirst = newPurse;
            strength = newStrength;
            cold = 0;
            muffler = 0;
            coughs = 0;
            bids = 0;
            lotsBought = 0;
            coinsPaid = 0;
        }

        void copyFrom(Bidder other) {
            row = other.row;
            seat = other.seat;
            purse = other.purse;
            purseAtFirst = other.purseAtFirst;
            strength = other.strength;
            cold = other.cold;
            muffler = other.muffler;
            coughs = other.coughs;
            bids = other.bids;
            lotsBought = other.lotsBought;
            coinsPaid = other.coinsPaid;
        }

        int loudness() {
            return strength + cold - muffler - row;
        }

        boolean isBeside(Bidder other) {
            return row == other.row && (seat == other.seat - 1 || seat == other.seat + 1);
        }

        void pay(int coins) {
            purse -= coins;
            coinsPaid += coins;
            lotsBought++;
        }

        int tell(int what) {
            switch (what) {
                case 0:
                    return row;
                case 1:
                    return seat;
                case 2:
                    return purse;
                case 3:
                    return strength;
                case 4:
                    return cold;
                case 5:
                    return muffler;
                case 6:
                    return 100 + loudness();
                case 7:
                    return coughs;
                case 8:
                    return bids;
                case 9:
                    return lotsBought;
                case 10:
                    return coinsPaid;
                default:
                    return INVALID_ARGUMENT;
            }
        }
    }

    private static final class Lot {
        private static final int SOLD = 0;
        private static final int WITHDRAWN = 1;
        private static final int WITHOUT_BID = 2;
        private static final int BID_FOR_COLD = 3;
        private static final int NOBODY = -1;

        private int reserve;
        private int step;
        private int latestBid;
        private int latestBidder;
        private boolean isLatestForCold;
        private boolean hasBidSinceBeat;
        private int bids;
        private int doubts;
        private int hush;
        private int fate;

        void come(int newReserve, int newStep) {
            reserve = newReserve;
            step = newStep;
            latestBid = 0;
            latestBidder = NOBODY;
            isLatestForCold = false;
            hasBidSinceBeat = false;
            bids = 0;
            doubts = 0;
            hush = 0;
            fate = SOLD;
        }

        void copyFrom(Lot other) {
            reserve = other.reserve;
            step = other.step;
            latestBid = other.latestBid;
            latestBidder = other.latestBidder;
            isLatestForCold = other.isLatestForCold;
            hasBidSinceBeat = other.hasBidSinceBeat;
            bids = other.bids;
            doubts = other.doubts;
            hush = other.hush;
            fate = other.fate;
        }

        boolean hasBid() {
            return bids > 0;
        }

        int asked() {
            return bids > 0 ? latestBid + step : reserve;
        }

        void takeBid(int bid, int bidder, boolean isForCold) {
            latestBid = bid;
            latestBidder = bidder;
            isLatestForCold = isForCold;
            hasBidSinceBeat = true;
            bids++;
        }

        int tellUp(int what) {
            switch (what) {
                case 0:
                    return reserve;
                case 1:
                    return step;
                case 2:
                    return hasBid() ? latestBid : NOT_FOUND;
                case 3:
                    return hasBid() ? latestBidder : NOT_FOUND;
                case 4:
                    return doubts;
                case 5:
                    return hush;
                case 6:
                    return asked();
                case 7:
                    return bids;
                case 8:
                    return isLatestForCold ? 1 : 0;
                default:
                    return INVALID_ARGUMENT;
            }
        }

        int tellGone(int what) {
            switch (what) {
                case 0:
                    return fate;
                case 1:
                    return latestBid;
                case 2:
                    return hasBid() ? latestBidder : NOT_FOUND;
                case 3:
                    return doubts;
                case 4:
                    return bids;
                default:
                    return INVALID_ARGUMENT;
            }
        }
    }

    /** One state of the auction: everything but the text and the history. */
    private static final class Auction {
        private static final int MOST_BIDDERS = 12;
        private static final int MOST_WAITING = 8;
        private static final int MOST_IN_BOOK = 8;
        private static final int MOST_BEATS = 9999;
        private static final int MOST_BEATS_A_CALL = 50;
        private static final int MOST_NIGHTS = 999;
        private static final int WORST_COLD = 5;
        private static final int CATCHING_COLD = 2;
        private static final int WHAT_IS_HEARD = 0;
        private static final int MOST_DOUBTS = 1;
        private static final int MOST_HUSH = 2;

        private final Bidder[] bidders;
        private final Lot[] queue;
        /** The latest one first. */
        private final Lot[] gone;
        /** How many lots had each of the fates that the book tells. */
        private final int[] fates;
        private final int[] settings;
        private int bidderCount;
        private int waitingCount;
        private int goneCount;
        private boolean isUp;
        private Lot raised;
        private int beatsPassed;
        private int nightsPassed;
        private int lotsCame;
        private int coinsPaid;
        private int coughs;
        private int bids;
        private int doubts;

        Auction() {
            bidders = new Bidder[MOST_BIDDERS];
            for (int i = 0; i < bidders.length; i++) {
                bidders[i] = new Bidder();
            }
            queue = new Lot[MOST_WAITING];
            for (int i = 0; i < queue.length; i++) {
                queue[i] = new Lot();
            }
            gone = new Lot[MOST_IN_BOOK];
            for (int i = 0; i < gone.length; i++) {
                gone[i] = new Lot();
            }
            fates = new int[4];
            settings = new int[] {3, 3, 3};
            raised = new Lot();
        }

        void copyFrom(Auction other) {
            bidderCount = other.bidderCount;
            for (int i = 0; i < bidderCount; i++) {
                bidders[i].copyFrom(other.bidders[i]);
            }
            waitingCount = other.waitingCount;
            for (int i = 0; i < waitingCount; i++) {
                queue[i].copyFrom(other.queue[i]);
            }
            goneCount = other.goneCount;
            for (int i = 0; i < goneCount; i++) {
                gone[i].copyFrom(other.gone[i]);
            }
            isUp = other.isUp;
            raised.copyFrom(other.raised);
            System.arraycopy(other.fates, 0, fates, 0, fates.length);
            System.arraycopy(other.settings, 0, settings, 0, settings.length);
            beatsPassed = other.beatsPassed;
            nightsPassed = other.nightsPassed;
            lotsCame = other.lotsCame;
            coinsPaid = other.coinsPaid;
            coughs = other.coughs;
            bids = other.bids;
            doubts = other.doubts;
        }

        // -- bidders

        boolean hasBidder(int number) {
            return number >= 0 && number < bidderCount;
        }

        int findSeated(int row, int seat) {
            for (int i = 0; i < bidderCount; i++) {
                if (bidders[i].row == row && bidders[i].seat == seat) {
                    return i;
                }
            }
            return NOT_FOUND;
        }

        int seatBidder(int row, int seat, int purse, int strength) {
            if (!isSeat(row, seat) || !isWithin(purse, 0, 999) || !isWithin(strength, 1, 9)) {
                return INVALID_ARGUMENT;
            }
            if (findSeated(row, seat) != NOT_FOUND) {
                return NOT_POSSIBLE;
            }
            if (bidderCount >= bidders.length) {
                return LIMIT_REACHED;
            }
            bidders[bidderCount].sitDown(row, seat, purse, strength);
            bidderCount++;
            return bidderCount - 1;
        }

        int changeCold(int number, int cold) {
            if (!hasBidder(number) || !isWithin(cold, 0, WORST_COLD)) {
                return INVALID_ARGUMENT;
            }
            int before = bidders[number].cold;
            bidders[number].cold = cold;
            return before;
        }

        int changeMuffler(int number, int muffler) {
            if (!hasBidder(number) || !isWithin(muffler, 0, 5)) {
                return INVALID_ARGUMENT;
            }
            int before = bidders[number].muffler;
            bidders[number].muffler = muffler;
            return before;
        }

        int bidderSetWithCold() {
            int found = 0;
            for (int i = 0; i < bidderCount; i++) {
                if (bidders[i].cold > 0) {
                    found |= 1 << i;
                }
            }
            return found;
        }

        int changeSetting(int what, int value) {
            if (!isWithin(what, 0, settings.length - 1) || !isWithin(value, 1, 9)) {
                return INVALID_ARGUMENT;
            }
            int before = settings[what];
            settings[what] = value;
            return before;
        }

        // -- lots

        int addLot(int reserve, int step) {
            if (!isWithin(reserve, 1, 99) || !isWithin(step, 1, 20)) {
                return INVALID_ARGUMENT;
            }
            if (waitingCount >= queue.length) {
                return LIMIT_REACHED;
            }
            queue[waitingCount].come(reserve, step);
            waitingCount++;
            lotsCame++;
            return waitingCount;
        }

        int raiseNextLot() {
            if (isUp || waitingCount == 0) {
                return NOT_POSSIBLE;
            }
            Lot spare = raised;
            raised = queue[0];
            for (int i = 1; i < queue.length; i++) {
                queue[i - 1] = queue[i];
            }
            queue[queue.length - 1] = spare;
            waitingCount--;
            isUp = true;
            return raised.reserve;
        }

        /** Enters the lot that is up in the book, whose oldest one makes room if it must. */
        private void close(int fate) {
            Lot spare = gone[gone.length - 1];
            for (int i = gone.length - 1; i > 0; i--) {
                gone[i] = gone[i - 1];
            }
            gone[0] = raised;
            raised.fate = fate;
            raised = spare;
            isUp = false;
            fates[fate]++;
            if (goneCount < gone.length) {
                goneCount++;
            }
        }

        // -- coughs

        /** Why a cough of a bidder who is there is no bid now, 0 if it is one. */
        int reasonAgainst(int number) {
            if (!isUp) {
                return 1;
            }
            if (bidders[number].loudness() < settings[WHAT_IS_HEARD]) {
                return 2;
            }
            if (raised.hasBid() && raised.latestBidder == number) {
                return 3;
            }
            if (bidders[number].purse < raised.asked()) {
                return 4;
            }
            return 0;
        }

        int takeCough(int number, boolean isForCold) {
            if (!hasBidder(number)) {
                return INVALID_ARGUMENT;
            }
            coughs++;
            bidders[number].coughs++;
            if (reasonAgainst(number) != 0) {
                return 0;
            }
            int bid = raised.asked();
            raised.takeBid(bid, number, isForCold);
            bids++;
            bidders[number].bids++;
            if (bidders[number].cold > bidders[number].strength) {
                doubtBid();
            }
            return bid;
        }

        private void doubtBid() {
            doubts++;
            raised.doubts++;
            if (raised.doubts >= settings[MOST_DOUBTS]) {
                close(Lot.WITHDRAWN);
            }
        }

        // -- beats

        boolean isDueToCough(int number) {
            int cold = bidders[number].cold;
            int every = 7 - cold;
            return cold > 0 && every > 0 && (beatsPassed + number) % every == 0;
        }

        int passBeats(int many) {
            if (!isWithin(many, 1, MOST_BEATS_A_CALL)) {
                return INVALID_ARGUMENT;
            }
            if (beatsPassed + many > MOST_BEATS) {
                return LIMIT_REACHED;
            }
            boolean wasUp = isUp;
            for (int i = 0; i < many; i++) {
                passBeat();
            }
            return wasUp && !isUp ? 1 : 0;
        }

        /** Knows no limit: what beats would bring is told beyond it too. */
        void passBeat() {
            if (isUp) {
                for (int i = 0; i < bidderCount; i++) {
                    if (isDueToCough(i)) {
                        takeCough(i, true);
                    }
                }
            }
            beatsPassed++;
            if (isUp) {
                hushOrHammer();
            }
        }

        private void hushOrHammer() {
            raised.hush = raised.hasBidSinceBeat ? 0 : raised.hush + 1;
            raised.hasBidSinceBeat = false;
            if (raised.hush >= settings[MOST_HUSH]) {
                letHammerFall();
            }
        }

        private void letHammerFall() {
            if (!raised.hasBid() || !hasBidder(raised.latestBidder)) {
                close(Lot.WITHOUT_BID);
            } else if (raised.isLatestForCold) {
                close(Lot.BID_FOR_COLD);
            } else {
                coinsPaid += raised.latestBid;
                bidders[raised.latestBidder].pay(raised.latestBid);
                close(Lot.SOLD);
            }
        }

        // -- nights

        int passNight() {
            if (isUp) {
                return NOT_POSSIBLE;
            }
            if (nightsPassed >= MOST_NIGHTS) {
                return LIMIT_REACHED;
            }
            spreadColds();
            nightsPassed++;
            return Integer.bitCount(bidderSetWithCold());
        }

        /** All who catch are found before any cold changes: colds count as they are ahead of it. */
        void spreadColds() {
            int catching = 0;
            for (int i = 0; i < bidderCount; i++) {
                if (sitsBesideCold(bidders[i])) {
                    catching |= 1 << i;
                }
            }
            for (int i = 0; i < bidderCount; i++) {
                int cold = bidders[i].cold;
                if ((catching >> i & 1) == 1) {
                    bidders[i].cold = Math.min(cold + 1, WORST_COLD);
                } else {
                    bidders[i].cold = Math.max(cold - 1, 0);
                }
            }
        }

        private boolean sitsBesideCold(Bidder one) {
            for (int i = 0; i < bidderCount; i++) {
                Bidder other = bidders[i];
                if (other.isBeside(one) && other.cold - other.muffler >= CATCHING_COLD) {
                    return true;
                }
            }
            return false;
        }

        // -- sums

        int coinsGoneFromPurses() {
            int sum = 0;
            for (int i = 0; i < bidderCount; i++) {
                sum += bidders[i].purseAtFirst - bidders[i].purse;
            }
            return sum;
        }

        int total(int what) {
            switch (what) {
                case 0:
                    return beatsPassed;
                case 1:
                    return bidderCount;
                case 2:
                    return waitingCount;
                case 3:
                    return isUp ? 1 : 0;
                case 4:
                    return lotsCame;
                case 5:
                    return fates[Lot.SOLD];
                case 6:
                    return fates[Lot.WITHDRAWN];
                case 7:
                    return fates[Lot.WITHOUT_BID];
                case 8:
                    return coinsPaid;
                case 9:
                    return coinsGoneFromPurses();
                case 10:
                    return coughs;
                case 11:
                    return bids;
                case 12:
                    return doubts;
                case 13:
                    return bidderSetWithCold();
                case 14:
                    return nightsPassed;
                case 15:
                    return goneCount;
                case 18:
                    return fates[Lot.BID_FOR_COLD];
                case 20:
                    return settings[WHAT_IS_HEARD];
                case 21:
                    return settings[MOST_DOUBTS];
                case 22:
                    return settings[MOST_HUSH];
                default:
                    return INVALID_ARGUMENT;
            }
        }

        // -- orders

        /** What the call of an order returns; an order takes as many of the numbers as it has. */
        int carryOut(char order, int[] numbers) {
            if (numbers.length < 4) {
                return INVALID_ARGUMENT;
            }
            switch (order) {
                case 'p':
                    return seatBidder(numbers[0], numbers[1], numbers[2], numbers[3]);
                case 'l':
                    return addLot(numbers[0], numbers[1]);
                case 'c':
                    return takeCough(numbers[0], false);
                case 'm':
                    return changeMuffler(numbers[0], numbers[1]);
                case 'b':
                    return passBeats(numbers[0]);
                case 'u':
                    return raiseNextLot();
                case 'n':
                    return passNight();
                default:
                    return INVALID_ARGUMENT;
            }
        }
    }

    /** The text, and what its latest reading found. */
    private static final class Script {
        private static final int MOST_CHARACTERS = 60;
        private static final int MOST_NUMBERS = 4;
        private static final int MOST_DIGITS = 3;
        private static final int NO_ORDER = -1;
        private static final int NO_FAULT = -1;
        private static final int NOT_OF_THE_FORM = 1;
        private static final int NOT_TO_BE_DONE = 2;

        private final char[] characters = new char[MOST_CHARACTERS];
        private final int[] numbers = new int[MOST_NUMBERS];
        private int length;
        private char order;
        /** Where the reading stands: behind an order, or at the character where it breaks off. */
        private int place;
        private int ordersDone;
        private int faultPosition = NO_FAULT;
        private int faultReason;
        private int faultCause;

        int append(int character) {
            if (!isWithin(character, 32, 126)) {
                return INVALID_ARGUMENT;
            }
            if (length >= characters.length) {
                return LIMIT_REACHED;
            }
            characters[length] = (char) character;
            length++;
            return length;
        }

        boolean hasFault() {
            return faultPosition != NO_FAULT;
        }

        /** Does the orders on the auction that is given, up to the first one that is not possible. */
        void performOn(Auction auction) {
            place = 0;
            ordersDone = 0;
            faultPosition = NO_FAULT;
            for (int i = 0; i < MOST_CHARACTERS && place < length && !hasFault(); i++) {
                int start = place;
                if (!readOrder()) {
                    noteFault(start, NOT_OF_THE_FORM, place - start);
                    return;
                }
                int answer = auction.carryOut(order, numbers);
                if (answer < 0) {
                    noteFault(start, NOT_TO_BE_DONE, answer);
                    return;
                }
                ordersDone++;
            }
        }

        private void noteFault(int position, int reason, int cause) {
            faultPosition = position;
            faultReason = reason;
            faultCause = cause;
        }

        private static int numbersOf(char order) {
            switch (order) {
                case 'p':
                    return 4;
                case 'l':
                case 'm':
                    return 2;
                case 'c':
                case 'b':
                    return 1;
                case 'u':
                case 'n':
                    return 0;
                default:
                    return NO_ORDER;
            }
        }

        private boolean readOrder() {
            order = next();
            int wanted = numbersOf(order);
            if (wanted == NO_ORDER) {
                return false;
            }
            place++;
            for (int i = 0; i < wanted && i < numbers.length; i++) {
                if (i > 0 && !readCharacter(',')) {
                    return false;
                }
                if (!readNumber(i)) {
                    return false;
                }
            }
            return readCharacter(';');
        }

        /** The character where the reading stands; behind the text a sign that no order has. */
        private char next() {
            return place >= 0 && place < length ? characters[place] : 0;
        }

        private boolean readCharacter(char wanted) {
            if (next() != wanted) {
                return false;
            }
            place++;
            return true;
        }

        private boolean readNumber(int which) {
            int value = 0;
            int digits = 0;
            while (digits < MOST_DIGITS && isWithin(next(), '0', '9')) {
                value = value * 10 + (next() - '0');
                place++;
                digits++;
            }
            numbers[which] = value;
            return digits > 0;
        }
    }
}
