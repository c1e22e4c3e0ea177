import java.util.ArrayDeque;
import java.util.ArrayList;
import java.util.Deque;
import java.util.List;
import java.util.regex.Matcher;
import java.util.regex.Pattern;

/** The document once more, written in another way: errors are thrown, states are copied whole. */
final class Model {
    private static final Pattern ORDER = Pattern.compile(
        "p(\\d{1,3}),(\\d{1,3}),(\\d{1,3}),(\\d{1,3});|([lm])(\\d{1,3}),(\\d{1,3});"
        + "|([cb])(\\d{1,3});|([un]);");

    private final Deque<State> history = new ArrayDeque<>();
    private State state = new State();
    private String text = "";

    private static final class Refused extends RuntimeException {
        private static final long serialVersionUID = 1L;
        final int code;

        Refused(int code) {
            super(null, null, false, false);
            this.code = code;
        }
    }

    private interface Deed {
        int doOn(State state);
    }

    private record Fault(int position, int reason, int cause) {
    }

    private static void demand(boolean holds, int otherwise) {
        if (!holds) {
            throw new Refused(otherwise);
        }
    }

    private static void demandRange(int value, int least, int most) {
        demand(least <= value && value <= most, CoughBids.INVALID_ARGUMENT);
    }

    private static final class Person implements Cloneable {
        int[] told = new int[11];
        int firstPurse;

        @Override
        public Person clone() {
            Person copy = new Person();
            copy.told = told.clone();
            copy.firstPurse = firstPurse;
            return copy;
        }

        int loud() {
            return told[3] + told[4] - told[5] - told[0];
        }
    }

    private record Bid(int coins, int person, boolean coldBeat) {
    }

    private static final class Thing {
        final int reserve;
        final int step;
        List<Bid> bids = new ArrayList<>();
        int bidsAtBeat;
        int doubts;
        int hush;
        int fate;

        Thing(int reserve, int step) {
            this.reserve = reserve;
            this.step = step;
        }

        Thing copy() {
            Thing copy = new Thing(reserve, step);
            copy.bids = new ArrayList<>(bids);
            copy.bidsAtBeat = bidsAtBeat;
            copy.doubts = doubts;
            copy.hush = hush;
            copy.fate = fate;
            return copy;
        }

        Bid last() {
            return bids.isEmpty() ? null : bids.get(bids.size() - 1);
        }

        int asked() {
            return bids.isEmpty() ? reserve : last().coins() + step;
        }
    }

    private static final class State {
        List<Person> persons = new ArrayList<>();
        List<Thing> waiting = new ArrayList<>();
        List<Thing> all = new ArrayList<>();
        Thing up;
        int came;
        int beats;
        int nights;
        int[] settings = {3, 3, 3};

        State copy() {
            State copy = new State();
            for (Person one : persons) {
                copy.persons.add(one.clone());
            }
            for (Thing one : waiting) {
                copy.waiting.add(one.copy());
            }
            copy.all.addAll(all);
            copy.up = up == null ? null : up.copy();
            copy.came = came;
            copy.beats = beats;
            copy.nights = nights;
            copy.settings = settings.clone();
            return copy;
        }

        Person person(int number) {
            demandRange(number, 0, persons.size() - 1);
            return persons.get(number);
        }

        int seated(int row, int seat) {
            for (Person one : persons) {
                if (one.told[0] == row && one.told[1] == seat) {
                    return persons.indexOf(one);
                }
            }
            return -1;
        }

        int come(int row, int seat, int purse, int strength) {
            demandRange(row, 0, 5);
            demandRange(seat, 0, 7);
            demandRange(purse, 0, 999);
            demandRange(strength, 1, 9);
            demand(seated(row, seat) < 0, CoughBids.NOT_POSSIBLE);
            demand(persons.size() < 12, CoughBids.LIMIT_REACHED);
            Person one = new Person();
            one.told[0] = row;
            one.told[1] = seat;
            one.told[2] = purse;
            one.firstPurse = purse;
            one.told[3] = strength;
            persons.add(one);
            return persons.size() - 1;
        }

        int change(int number, int what, int value) {
            Person one = person(number);
            demandRange(value, 0, 5);
            int before = one.told[what];
            one.told[what] = value;
            return before;
        }

        int lot(int reserve, int step) {
            demandRange(reserve, 1, 99);
            demandRange(step, 1, 20);
            demand(waiting.size() < 8, CoughBids.LIMIT_REACHED);
            waiting.add(new Thing(reserve, step));
            came++;
            return waiting.size();
        }

        int putUp() {
            demand(up == null && !waiting.isEmpty(), CoughBids.NOT_POSSIBLE);
            up = waiting.remove(0);
            return up.reserve;
        }

        int why(int number) {
            Person one = person(number);
            if (up == null) {
                return 1;
            }
            if (one.loud() < settings[0]) {
                return 2;
            }
            if (up.last() != null && up.last().person() == number) {
                return 3;
            }
            return one.told[2] < up.asked() ? 4 : 0;
        }

        int cough(int number, boolean coldBeat) {
            int reason = why(number);
            Person one = person(number);
            one.told[7]++;
            if (reason > 0) {
                return 0;
            }
            int coins = up.asked();
            up.bids.add(new Bid(coins, number, coldBeat));
            one.told[8]++;
            if (one.told[4] > one.told[3]) {
                up.doubts++;
                if (up.doubts >= settings[1]) {
                    leave(1);
                }
            }
            return coins;
        }

        void leave(int fate) {
            up.fate = fate;
            all.add(up);
            up = null;
        }

        int coughing() {
            int found = 0;
            for (int i = 0; i < persons.size(); i++) {
                int cold = persons.get(i).told[4];
                if (cold > 0 && Math.floorMod(beats + i, 7 - cold) == 0) {
                    found += (int) Math.pow(2, i);
                }
            }
            return found;
        }

        void beat() {
            if (up != null) {
                int who = coughing();
                for (int i = 0; i < 12; i++) {
                    if ((who & 1 << i) != 0) {
                        cough(i, true);
                    }
                }
            }
            beats++;
            if (up == null) {
                return;
            }
            up.hush = up.bids.size() == up.bidsAtBeat ? up.hush + 1 : 0;
            up.bidsAtBeat = up.bids.size();
            if (up.hush >= settings[2]) {
                hammer();
            }
        }

        void hammer() {
            Bid last = up.last();
            if (last == null) {
                leave(2);
            } else if (last.coldBeat()) {
                leave(3);
            } else {
                Person buyer = persons.get(last.person());
                buyer.told[2] -= last.coins();
                buyer.told[9]++;
                buyer.told[10] += last.coins();
                leave(0);
            }
        }

        int beats(int many) {
            demandRange(many, 1, 50);
            demand(beats + many <= 9999, CoughBids.LIMIT_REACHED);
            boolean was = up != null;
            for (int i = 0; i < many; i++) {
                beat();
            }
            return was && up == null ? 1 : 0;
        }

        int withCold() {
            int found = 0;
            for (int i = 0; i < persons.size(); i++) {
                found += persons.get(i).told[4] > 0 ? 1 << i : 0;
            }
            return found;
        }

        void spread() {
            int[] next = new int[persons.size()];
            for (int i = 0; i < next.length; i++) {
                Person one = persons.get(i);
                boolean caught = false;
                for (int side = -1; side <= 1; side += 2) {
                    int other = seated(one.told[0], one.told[1] + side);
                    if (other >= 0) {
                        int[] of = persons.get(other).told;
                        caught |= of[4] - of[5] >= 2;
                    }
                }
                next[i] = Math.max(0, Math.min(5, one.told[4] + (caught ? 1 : -1)));
            }
            for (int i = 0; i < next.length; i++) {
                persons.get(i).told[4] = next[i];
            }
        }

        int night() {
            demand(up == null, CoughBids.NOT_POSSIBLE);
            demand(nights < 999, CoughBids.LIMIT_REACHED);
            spread();
            nights++;
            return Integer.bitCount(withCold());
        }

        int set(int what, int value) {
            demandRange(what, 0, 2);
            demandRange(value, 1, 9);
            int before = settings[what];
            settings[what] = value;
            return before;
        }

        int fates(int fate) {
            return (int) all.stream().filter(one -> one.fate == fate).count();
        }

        int paid() {
            return all.stream().filter(one -> one.fate == 0).mapToInt(one -> one.last().coins()).sum();
        }

        int sum(int what) {
            return persons.stream().mapToInt(one -> one.told[what]).sum();
        }

        int doubts() {
            return all.stream().mapToInt(one -> one.doubts).sum() + (up == null ? 0 : up.doubts);
        }

        int order(Matcher m) {
            if (m.group(1) != null) {
                return come(number(m, 1), number(m, 2), number(m, 3), number(m, 4));
            }
            if (m.group(5) != null) {
                boolean lot = m.group(5).equals("l");
                return lot ? lot(number(m, 6), number(m, 7)) : change(number(m, 6), 5, number(m, 7));
            }
            if (m.group(8) != null) {
                return m.group(8).equals("c") ? cough(number(m, 9), false) : beats(number(m, 9));
            }
            return m.group(10).equals("u") ? putUp() : night();
        }

        private static int number(Matcher m, int group) {
            return Integer.parseInt(m.group(group));
        }
    }

    private int change(Deed deed) {
        State before = state.copy();
        try {
            int answer = deed.doOn(state);
            history.addLast(before);
            if (history.size() == 5) {
                history.removeFirst();
            }
            return answer;
        } catch (Refused refused) {
            state = before;
            return refused.code;
        }
    }

    private int tell(Deed deed) {
        try {
            return deed.doOn(state.copy());
        } catch (Refused refused) {
            return refused.code;
        }
    }

    /** How many characters of the order still are the beginning of one. */
    private static int breaksOff(String order) {
        for (int i = 0; i < order.length(); i++) {
            Matcher m = ORDER.matcher(order.substring(0, i + 1));
            if (!m.matches() && !m.hitEnd()) {
                return i;
            }
        }
        return order.length();
    }

    /** Does the text on the state; its fault, or null and the number of orders in done[0]. */
    private Fault faultOn(State on, int[] done) {
        int position = 0;
        while (position < text.length()) {
            Matcher m = ORDER.matcher(text).region(position, text.length());
            if (!m.lookingAt()) {
                return new Fault(position, 1, breaksOff(text.substring(position)));
            }
            try {
                on.order(m);
            } catch (Refused refused) {
                return new Fault(position, 2, refused.code);
            }
            done[0]++;
            position = m.end();
        }
        return null;
    }

    int answer(int call, int[] of) {
        switch (call) {
            case 0: return change(s -> s.come(of[0], of[1], of[2], of[3]));
            case 1: return change(s -> s.change(of[0], 4, of[1]));
            case 2: return change(s -> s.change(of[0], 5, of[1]));
            case 3: return change(s -> s.lot(of[0], of[1]));
            case 4: return change(State::putUp);
            case 5: return change(s -> s.cough(of[0], false));
            case 6: return change(s -> s.beats(of[0]));
            case 7: return change(State::night);
            case 8: return change(s -> s.set(of[0], of[1]));
            case 9: return tell(s -> bidderOf(s, of[0], of[1]));
            case 10: return tell(s -> at(s, of[0], of[1]));
            case 11: return tell(s -> up(s, of[0]));
            case 12: return tell(s -> waiting(s, of[0], of[1]));
            case 13: return tell(s -> book(s, of[0], of[1]));
            case 14: return tell(s -> s.why(of[0]));
            case 15: return tell(s -> ifBeats(s, of[0], of[1]));
            case 16: return tell(Model::goneIn);
            case 17: return tell(State::coughing);
            case 18: return tell(Model::loudest);
            case 19: return tell(s -> ifNights(s, of[0]));
            case 20: return tell(Model::mean);
            case 21: return tell(s -> count(s, of[0]));
            case 22: return undo();
            case 23: return tell(s -> type(of[0]));
            case 24: return clearText();
            case 25: return tell(s -> fault(s, of[0]));
            default: return change(this::play);
        }
    }

    private static int bidderOf(State s, int number, int what) {
        Person one = s.person(number);
        demandRange(what, 0, 10);
        if (what == 6) {
            return 100 + one.loud();
        }
        return one.told[what];
    }

    private static int at(State s, int row, int seat) {
        demandRange(row, 0, 5);
        demandRange(seat, 0, 7);
        demand(s.seated(row, seat) >= 0, CoughBids.NOT_FOUND);
        return s.seated(row, seat);
    }

    private static int up(State s, int what) {
        demandRange(what, 0, 8);
        demand(s.up != null, CoughBids.NOT_POSSIBLE);
        Bid last = s.up.last();
        demand(last != null || what != 2 && what != 3, CoughBids.NOT_FOUND);
        int coins = last == null ? 0 : last.coins();
        int person = last == null ? 0 : last.person();
        int coldBeat = last != null && last.coldBeat() ? 1 : 0;
        return new int[] {s.up.reserve, s.up.step, coins, person, s.up.doubts, s.up.hush,
            s.up.asked(), s.up.bids.size(), coldBeat}[what];
    }

    private static int waiting(State s, int place, int what) {
        demandRange(place, 0, Integer.MAX_VALUE);
        demandRange(what, 0, 1);
        demand(place < s.waiting.size(), CoughBids.NOT_FOUND);
        return what == 0 ? s.waiting.get(place).reserve : s.waiting.get(place).step;
    }

    private static int book(State s, int ago, int what) {
        demandRange(ago, 0, Integer.MAX_VALUE);
        demandRange(what, 0, 4);
        demand(ago < Math.min(8, s.all.size()), CoughBids.NOT_FOUND);
        Thing one = s.all.get(s.all.size() - 1 - ago);
        Bid last = one.last();
        demand(what != 2 || last != null, CoughBids.NOT_FOUND);
        int coins = last == null ? 0 : last.coins();
        int person = last == null ? 0 : last.person();
        return new int[] {one.fate, coins, person, one.doubts, one.bids.size()}[what];
    }

    private static int ifBeats(State s, int many, int what) {
        demandRange(many, 1, 50);
        demandRange(what, 0, 3);
        int[] before = {s.sum(8), s.doubts(), s.fates(0), s.paid()};
        for (int i = 0; i < many; i++) {
            s.beat();
        }
        int[] behind = {s.sum(8), s.doubts(), s.fates(0), s.paid()};
        return behind[what] - before[what];
    }

    private static int goneIn(State s) {
        demand(s.up != null, CoughBids.NOT_POSSIBLE);
        int start = s.beats;
        while (s.up != null && s.beats - start < 200) {
            s.beat();
        }
        demand(s.up == null, CoughBids.NOT_FOUND);
        return s.beats - start;
    }

    private static int loudest(State s) {
        demand(!s.persons.isEmpty(), CoughBids.NOT_FOUND);
        int most = s.persons.stream().mapToInt(Person::loud).max().getAsInt();
        for (int i = 0;; i++) {
            if (s.persons.get(i).loud() == most) {
                return i;
            }
        }
    }

    private static int ifNights(State s, int nights) {
        demandRange(nights, 1, 20);
        for (int i = 0; i < nights; i++) {
            s.spread();
        }
        return Integer.bitCount(s.withCold());
    }

    private static int mean(State s) {
        demand(s.fates(0) > 0, CoughBids.NOT_FOUND);
        return Float.floatToIntBits((float) s.paid() / (float) s.fates(0));
    }

    private int count(State s, int what) {
        demandRange(what, 0, 22);
        demand(what != 19, CoughBids.INVALID_ARGUMENT);
        int purses = s.persons.stream().mapToInt(one -> one.firstPurse).sum() - s.sum(2);
        return new int[] {s.beats, s.persons.size(), s.waiting.size(), s.up == null ? 0 : 1, s.came,
            s.fates(0), s.fates(1), s.fates(2), s.paid(), purses, s.sum(7), s.sum(8), s.doubts(),
            s.withCold(), s.nights, Math.min(8, s.all.size()), history.size(), text.length(),
            s.fates(3), 0, s.settings[0], s.settings[1], s.settings[2]}[what];
    }

    private int undo() {
        if (history.isEmpty()) {
            return CoughBids.NOT_POSSIBLE;
        }
        state = history.removeLast();
        return history.size();
    }

    private int type(int character) {
        demandRange(character, 32, 126);
        demand(text.length() < 60, CoughBids.LIMIT_REACHED);
        text += (char) character;
        return text.length();
    }

    private int clearText() {
        int before = text.length();
        text = "";
        return before;
    }

    private int fault(State s, int what) {
        demandRange(what, 0, 2);
        Fault found = faultOn(s, new int[1]);
        demand(found != null, CoughBids.NOT_FOUND);
        return what == 0 ? found.position() : what == 1 ? found.reason() : found.cause();
    }

    private int play(State s) {
        int[] done = new int[1];
        demand(faultOn(s, done) == null, CoughBids.NOT_POSSIBLE);
        return done[0];
    }
}
