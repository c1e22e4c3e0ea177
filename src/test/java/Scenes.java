/** What several tests begin with. */
final class Scenes {
    private Scenes() {
    }

    /** Twelve bidders, eight in row 0 and four in row 1, each with 100 coins and a strength of 5. */
    static CoughBids full() {
        CoughBids x = new CoughBids();
        for (int i = 0; i < 12; i++) {
            x.bidder(i / 8, i % 8, 100, 5);
        }
        return x;
    }

    /** Bidders in row 0, a seat between each two, with 999 coins and the strengths that are told. */
    static CoughBids strong(int... strengths) {
        CoughBids x = new CoughBids();
        for (int i = 0; i < strengths.length; i++) {
            x.bidder(0, 2 * i, 999, strengths[i]);
        }
        return x;
    }

    static void putUp(CoughBids x, int reserve, int step) {
        x.lot(reserve, step);
        x.putUp();
    }

    /** Fewer beats than 9999, by few calls. */
    static void passBeats(CoughBids x, int many) {
        Due.retype(x, "b50;b50;b50;b50;b50;b50;b50;b50;b50;b50;");
        int left = many;
        for (; left >= 500; left -= 500) {
            x.play();
        }
        for (; left > 0; left -= Math.min(left, 50)) {
            x.beats(Math.min(left, 50));
        }
        x.clearText();
    }

    /** Nights, thirty by a call. */
    static void passNights(CoughBids x, int many) {
        Due.retype(x, "n;n;n;n;n;n;n;n;n;n;n;n;n;n;n;n;n;n;n;n;n;n;n;n;n;n;n;n;n;n;");
        int left = many;
        for (; left >= 30; left -= 30) {
            x.play();
        }
        for (; left > 0; left--) {
            x.night();
        }
        x.clearText();
    }
}
