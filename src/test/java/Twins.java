import java.util.ArrayList;
import java.util.List;
import java.util.function.Consumer;
import java.util.function.ToIntFunction;

/**
 * Two objects with the same past, one of which gets a call more that is refused: both must tell the
 * same of everything then, their history and text included.
 */
final class Twins {
    private final List<String> calls = new ArrayList<>();
    private final List<Integer> answers = new ArrayList<>();

    private Twins() {
    }

    static void refused(String call, int code, Consumer<CoughBids> past,
            ToIntFunction<CoughBids> refused) {
        CoughBids one = new CoughBids();
        CoughBids other = new CoughBids();
        past.accept(one);
        past.accept(other);
        Due.due(call, refused.applyAsInt(other), code);
        same(call, one, other);
    }

    /** Tells all of both, which ends their histories. */
    static void same(String call, CoughBids one, CoughBids other) {
        Twins due = new Twins();
        due.tellAll(one);
        Twins got = new Twins();
        got.tellAll(other);
        Due.due(call + ": as many answers", got.answers.size(), due.answers.size());
        for (int i = 0; i < Math.min(got.answers.size(), due.answers.size()); i++) {
            Due.due(due.calls.get(i) + " behind " + call, got.answers.get(i), due.answers.get(i));
        }
    }

    private void tell(String call, int answer) {
        calls.add(call);
        answers.add(answer);
    }

    private void tellAll(CoughBids x) {
        tellNumbers(x, "");
        tellBidders(x);
        tellLots(x);
        for (int what = 0; what <= 3; what++) {
            tell("ifBeats(50, " + what + ")", x.ifBeats(50, what));
        }
        tell("ifBeats(1, 0)", x.ifBeats(1, 0));
        tell("ifNights(1)", x.ifNights(1));
        tell("ifNights(4)", x.ifNights(4));
        for (int what = 0; what <= 2; what++) {
            tell("fault(" + what + ")", x.fault(what));
        }
        for (int undone = 1; x.undo() >= 0 && undone <= 4; undone++) {
            tellNumbers(x, " behind " + undone + " undo()");
        }
        tell("clearText()", x.clearText());
    }

    private void tellNumbers(CoughBids x, String when) {
        for (int what = 0; what <= 22; what++) {
            tell("count(" + what + ")" + when, x.count(what));
        }
        for (int what = 2; what <= 5; what++) {
            tell("up(" + what + ")" + when, x.up(what));
        }
        tell("goneIn()" + when, x.goneIn());
        tell("coughing()" + when, x.coughing());
        tell("loudest()" + when, x.loudest());
        tell("mean()" + when, x.mean());
    }

    private void tellBidders(CoughBids x) {
        int bidders = x.count(1);
        for (int number = 0; number < bidders; number++) {
            for (int what = 0; what <= 10; what++) {
                tell("bidderOf(" + number + ", " + what + ")", x.bidderOf(number, what));
            }
            tell("why(" + number + ")", x.why(number));
        }
    }

    private void tellLots(CoughBids x) {
        for (int what = 0; what <= 8; what++) {
            tell("up(" + what + ")", x.up(what));
        }
        int waiting = x.count(2);
        for (int place = 0; place < waiting; place++) {
            tell("waiting(" + place + ", 0)", x.waiting(place, 0));
            tell("waiting(" + place + ", 1)", x.waiting(place, 1));
        }
        int gone = x.count(15);
        for (int ago = 0; ago < gone; ago++) {
            for (int what = 0; what <= 4; what++) {
                tell("book(" + ago + ", " + what + ")", x.book(ago, what));
            }
        }
    }
}
