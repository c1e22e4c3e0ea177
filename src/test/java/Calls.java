import java.util.List;

/** The calls of the face, by number and by name, in the document's order. */
final class Calls {
    static final List<String> NAMES = List.of("bidder", "catches", "muffle", "lot", "putUp", "cough",
        "beats", "night", "set", "bidderOf", "at", "up", "waiting", "book", "why", "ifBeats",
        "goneIn", "coughing", "loudest", "ifNights", "mean", "count", "undo", "type", "clearText",
        "fault", "play");
    private static final int[] ARGUMENTS = {4, 2, 2, 2, 0, 1, 1, 0, 2, 2, 2, 1, 2, 2, 1, 2, 0, 0, 0, 1,
        0, 1, 0, 1, 0, 1, 0};

    private Calls() {
    }

    static int argumentsOf(int call) {
        return ARGUMENTS[call];
    }

    static int make(CoughBids x, int call, int[] of) {
        switch (call) {
            case 0: return x.bidder(of[0], of[1], of[2], of[3]);
            case 1: return x.catches(of[0], of[1]);
            case 2: return x.muffle(of[0], of[1]);
            case 3: return x.lot(of[0], of[1]);
            case 4: return x.putUp();
            case 5: return x.cough(of[0]);
            case 6: return x.beats(of[0]);
            case 7: return x.night();
            case 8: return x.set(of[0], of[1]);
            case 9: return x.bidderOf(of[0], of[1]);
            case 10: return x.at(of[0], of[1]);
            case 11: return x.up(of[0]);
            case 12: return x.waiting(of[0], of[1]);
            case 13: return x.book(of[0], of[1]);
            case 14: return x.why(of[0]);
            case 15: return x.ifBeats(of[0], of[1]);
            case 16: return x.goneIn();
            case 17: return x.coughing();
            case 18: return x.loudest();
            case 19: return x.ifNights(of[0]);
            case 20: return x.mean();
            case 21: return x.count(of[0]);
            case 22: return x.undo();
            case 23: return x.type(of[0]);
            case 24: return x.clearText();
            case 25: return x.fault(of[0]);
            default: return x.play();
        }
    }
}
