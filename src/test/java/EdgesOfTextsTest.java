/** Edges of the section "Texts", and of the promises 25 to 28. */
public final class EdgesOfTextsTest {
    private static final int INVALID = CoughBids.INVALID_ARGUMENT;
    private static final int NOT_POSSIBLE = CoughBids.NOT_POSSIBLE;
    private static final int LIMIT = CoughBids.LIMIT_REACHED;
    private static final int NOT_FOUND = CoughBids.NOT_FOUND;
    private static final String[] ORDERS = {"p1,22,333,9;", "l1,22;", "c0;", "m333,1;", "b50;", "u;",
        "n;"};

    private EdgesOfTextsTest() {
    }

    private static void due(String call, int got, int want) {
        Due.due(call, got, want);
    }

    private static void fault(CoughBids x, String text, int position, int reason, int cause) {
        Due.retype(x, text);
        due("position of the fault of " + text, x.fault(0), position);
        due("reason of the fault of " + text, x.fault(1), reason);
        due("cause of the fault of " + text, x.fault(2), cause);
        due("play of " + text, x.play(), NOT_POSSIBLE);
    }

    private static void noFault(CoughBids x, String text, int orders) {
        Due.retype(x, text);
        for (int what = 0; what <= 2; what++) {
            due("fault(" + what + ") of " + text, x.fault(what), NOT_FOUND);
        }
        due("play of " + text, x.play(), orders);
    }

    // ---- the text

    private static void atMostSixty() {
        Due.sentence("There is a text of at most 60 characters, initially empty");
        CoughBids x = new CoughBids();
        due("at first", x.count(17), 0);
        for (int i = 1; i <= 60; i++) {
            due("type", x.type('b'), i);
        }
        due("the 61st", x.type('b'), LIMIT);
        due("the length", x.count(17), 60);
        due("clearText", x.clearText(), 60);
        due("the first again", x.type('b'), 1);
    }

    private static void typeRange() {
        Due.sentence("type: character 32 to 126; INVALID_ARGUMENT if character is out of range; "
            + "LIMIT_REACHED if it has 60 characters");
        CoughBids x = new CoughBids();
        Due.outside("character", 32, 126, x::type);
        due("nothing typed", x.count(17), 0);
        due("the least", x.type(32), 1);
        due("the most", x.type(126), 2);
        Due.retype(x, "u;u;u;u;u;u;u;u;u;u;u;u;u;u;u;u;u;u;u;u;u;u;u;u;u;u;u;u;u;u;");
        due("too small, of a full text", x.type(31), INVALID);
        due("too large, of a full text", x.type(127), INVALID);
        due("in range, of a full text", x.type(32), LIMIT);
        due("the length", x.count(17), 60);
    }

    private static void clearsWhatThereIs() {
        Due.sentence("clearText: Empties the text. Returns the length it had");
        CoughBids x = new CoughBids();
        due("of an empty text", x.clearText(), 0);
        x.type('x');
        due("of one character", x.clearText(), 1);
        due("emptied", x.count(17), 0);
        due("no fault any more", x.fault(0), NOT_FOUND);
        due("it is empty", x.clearText(), 0);
        due("no order of before", x.play(), 0);
    }

    /** What was typed before must not be read behind a shorter text. */
    private static void nothingBehindTheText() {
        Due.sentence("of one that the text ends too early it is its length");
        CoughBids x = new CoughBids();
        Due.retype(x, "n;n;n;n;");
        fault(x, "n", 0, 1, 1);
        Due.retype(x, "n;n;n;n;");
        fault(x, "n;n", 2, 1, 1);
        Due.retype(x, "b11;");
        fault(x, "b1", 0, 1, 2);
    }

    // ---- its form

    private static void endsTooEarly() {
        Due.sentence("at which character of the order, from 0, it breaks off (of one that the text "
            + "ends too early it is its length)");
        CoughBids[] all = {new CoughBids(), new CoughBids()};
        for (String order : ORDERS) {
            for (int length = 1; length < order.length(); length++) {
                fault(all[0], order.substring(0, length), 0, 1, length);
                fault(all[1], "b1;n;" + order.substring(0, length), 5, 1, length);
            }
            all[0] = new CoughBids();
            all[1] = new CoughBids();
        }
    }

    private static void breaksOffAtEach() {
        Due.sentence("its reason is 1 if it is not of this form, its \";\" included; at which character "
            + "of the order, from 0, it breaks off");
        for (String order : ORDERS) {
            for (String sign : new String[] {"x", " ", "-", "/", ":", "P"}) {
                CoughBids x = new CoughBids();
                for (int i = 0; i < order.length(); i++) {
                    fault(x, order.substring(0, i) + sign + order.substring(i + 1), 0, 1, i);
                }
            }
            CoughBids x = new CoughBids();
            fault(x, "n;" + order.replace(";", "."), 2, 1, order.length() - 1);
            fault(x, "n;" + order.replace(";", ","), 2, 1, order.length() - 1);
        }
    }

    private static void letters() {
        Due.sentence("orders, each followed by \";\": p, l, c, m, b, or u or n");
        for (int sign = 32; sign <= 126; sign++) {
            CoughBids x = new CoughBids();
            x.type(sign);
            x.type(';');
            boolean alone = sign == 'n';
            boolean numbers = "plcmb".indexOf(sign) >= 0;
            due("reason of " + (char) sign, x.fault(1), alone ? NOT_FOUND : sign == 'u' ? 2 : 1);
            if (!alone && sign != 'u') {
                due("cause of " + (char) sign, x.fault(2), numbers ? 1 : 0);
            }
        }
    }

    private static void digits() {
        Due.sentence("numbers of 1 to 3 digits, 0 ahead allowed");
        CoughBids x = new CoughBids();
        noFault(x, "p5,7,9,1;", 1);
        noFault(x, "p05,06,09,01;", 1);
        noFault(x, "p005,005,999,009;", 1);
        noFault(x, "p000,000,000,001;", 1);
        noFault(x, "c003;m003,005;b050;l099,020;", 4);
        noFault(x, "c00;m00,00;b01;l01,01;", 4);
        fault(x, "b0050;", 0, 1, 4);
        fault(x, "c0000;", 0, 1, 4);
        fault(x, "m0001,1;", 0, 1, 4);
        fault(x, "m1,0001;", 0, 1, 6);
        fault(x, "l0001,1;", 0, 1, 4);
        fault(x, "l1,0001;", 0, 1, 6);
        fault(x, "p0001,1,1,1;", 0, 1, 4);
        fault(x, "p1,0001,1,1;", 0, 1, 6);
        fault(x, "p1,1,0001,1;", 0, 1, 8);
        fault(x, "p1,1,1,0001;", 0, 1, 10);
    }

    private static void noDigits() {
        Due.sentence("numbers of 1 to 3 digits");
        CoughBids x = new CoughBids();
        fault(x, "b;", 0, 1, 1);
        fault(x, "c;", 0, 1, 1);
        fault(x, "m,1;", 0, 1, 1);
        fault(x, "m1,;", 0, 1, 3);
        fault(x, "l,1;", 0, 1, 1);
        fault(x, "l1,;", 0, 1, 3);
        fault(x, "p,1,1,1;", 0, 1, 1);
        fault(x, "p1,,1,1;", 0, 1, 3);
        fault(x, "p1,1,,1;", 0, 1, 5);
        fault(x, "p1,1,1,;", 0, 1, 7);
        fault(x, "b+1;", 0, 1, 1);
    }

    private static void tooManyNumbers() {
        Due.sentence("its reason is 1 if it is not of this form");
        CoughBids x = new CoughBids();
        fault(x, "u0;", 0, 1, 1);
        fault(x, "n0;", 0, 1, 1);
        fault(x, "b1,1;", 0, 1, 2);
        fault(x, "c0,0;", 0, 1, 2);
        fault(x, "l1,1,1;", 0, 1, 4);
        fault(x, "m0,0,0;", 0, 1, 4);
        fault(x, "p1,1,1,1,1;", 0, 1, 8);
        fault(x, "l1;", 0, 1, 2);
        fault(x, "m0;", 0, 1, 2);
        fault(x, "p1,1,1;", 0, 1, 6);
        fault(x, ";", 0, 1, 0);
        fault(x, "n;;", 2, 1, 0);
    }

    // ---- what is not possible

    private static void causesOfP() {
        Due.sentence("with the reason 2 the error code that the call returns for it (p)");
        CoughBids x = new CoughBids();
        fault(x, "p6,0,0,1;", 0, 2, INVALID);
        fault(x, "p0,8,0,1;", 0, 2, INVALID);
        fault(x, "p0,0,0,0;", 0, 2, INVALID);
        fault(x, "p0,0,0,10;", 0, 2, INVALID);
        fault(x, "p256,0,0,1;", 0, 2, INVALID);
        noFault(x, "p5,7,999,9;p0,0,0,1;", 2);
        fault(x, "p5,7,0,1;", 0, 2, NOT_POSSIBLE);
        CoughBids full = Scenes.full();
        fault(full, "p1,4,1,1;", 0, 2, LIMIT);
        fault(full, "n;p1,3,1,1;", 2, 2, NOT_POSSIBLE);
        fault(full, "n;n;p1,3,1,0;", 4, 2, INVALID);
    }

    private static void numbersInTheirPlaces() {
        Due.sentence("\"p\" a row, a seat, a purse, a strength, \"l\" a reserve, a step, \"c\" a bidder, "
            + "\"m\" a bidder, a muffler, \"b\" beats");
        CoughBids x = new CoughBids();
        noFault(x, "p0,7,123,9;p5,6,99,8;m1,4;l17,3;b7;n;l18,2;m0,1;", 8);
        int[][] told = {{0, 7, 123, 9, 0, 1}, {5, 6, 99, 8, 0, 4}};
        for (int what = 0; what <= 5; what++) {
            due("bidderOf(0, " + what + ")", x.bidderOf(0, what), told[0][what]);
            due("bidderOf(1, " + what + ")", x.bidderOf(1, what), told[1][what]);
        }
        due("reserve", x.waiting(0, 0), 17);
        due("step", x.waiting(0, 1), 3);
        due("reserve of the next", x.waiting(1, 0), 18);
        due("beats", x.count(0), 7);
        due("nights", x.count(14), 1);
        noFault(x, "u;c0;", 2);
        due("it is no cough for a cold in a beat", x.up(8), 0);
        due("the bid", x.up(2), 17);
        noFault(x, "b4;", 1);
        due("it buys", x.bidderOf(0, 2), 106);
    }

    private static void causesOfTheOthers() {
        Due.sentence("with the reason 2 the error code that the call returns for it (l, c, m, b, u, n)");
        CoughBids x = Scenes.full();
        fault(x, "l0,1;", 0, 2, INVALID);
        fault(x, "l100,1;", 0, 2, INVALID);
        fault(x, "l1,0;", 0, 2, INVALID);
        fault(x, "l1,21;", 0, 2, INVALID);
        fault(x, "c12;", 0, 2, INVALID);
        fault(x, "m12,1;", 0, 2, INVALID);
        fault(x, "m0,6;", 0, 2, INVALID);
        fault(x, "b0;", 0, 2, INVALID);
        fault(x, "b51;", 0, 2, INVALID);
        fault(x, "u;", 0, 2, NOT_POSSIBLE);
        fault(x, "l1,1;u;u;", 7, 2, NOT_POSSIBLE);
        fault(x, "l1,1;u;n;", 7, 2, NOT_POSSIBLE);
        noFault(x, "c11;m11,5;b50;n;", 4);
        noFault(x, "l99,20;u;c11;", 3);
        x.undo();
        for (int i = 0; i < 8; i++) {
            x.lot(1, 1);
        }
        fault(x, "l1,1;", 0, 2, LIMIT);
        fault(x, "u;l1,1;l1,1;", 7, 2, LIMIT);
    }

    private static void thoseAheadAreDone() {
        Due.sentence("and otherwise 2, when those ahead of it are done");
        CoughBids x = new CoughBids();
        noFault(x, "p0,0,9,5;c0;", 2);
        x.undo();
        fault(x, "c0;p0,0,9,5;", 0, 2, INVALID);
        fault(x, "p0,0,9,5;p0,0,9,5;", 9, 2, NOT_POSSIBLE);
        noFault(x, "l1,1;u;b3;", 3);
        x.undo();
        fault(x, "l1,1;u;b3;u;", 10, 2, NOT_POSSIBLE);
        fault(x, "l1,1;u;b2;n;", 10, 2, NOT_POSSIBLE);
        noFault(x, "l1,1;u;b3;n;", 4);
        x.undo();
        due("nothing is left of them", x.count(0) + x.count(1) + x.count(4) + x.count(14), 0);
    }

    private static void firstOrderNotPossible() {
        Due.sentence("the position, from 0, of the first character of the first order that is not "
            + "possible");
        CoughBids x = new CoughBids();
        fault(x, "u;x", 0, 2, NOT_POSSIBLE);
        fault(x, "x;u;", 0, 1, 0);
        fault(x, "b1;u;c9;", 3, 2, NOT_POSSIBLE);
        fault(x, "n;n;n;n;n;n;n;n;n;n;n;n;n;n;n;n;n;n;n;n;n;n;n;n;n;n;n;n;n;nn", 58, 1, 1);
        fault(x, "n;n;n;n;n;n;n;n;n;n;n;n;n;n;n;n;n;n;n;n;n;n;n;n;n;n;n;n;n;u;", 58, 2, NOT_POSSIBLE);
    }

    private static void sameForBothTellings() {
        Due.sentence("The text stays, whether it has a fault or not");
        CoughBids x = new CoughBids();
        Due.type(x, "n;u;");
        due("play with a fault", x.play(), NOT_POSSIBLE);
        due("it stays", x.count(17), 4);
        x.lot(1, 1);
        due("play without one", x.play(), 2);
        due("it stays", x.count(17), 4);
        due("with a lot up it has one again", x.fault(0), 0);
        x.undo();
        due("undo does not change it", x.count(17), 4);
        due("and takes the fault away", x.fault(0), NOT_FOUND);
    }

    // ---- promises 27 and 28

    private static void faultRange() {
        Due.sentence("fault: INVALID_ARGUMENT if what is out of range; NOT_FOUND if the text has no "
            + "fault (also if it is empty)");
        CoughBids x = new CoughBids();
        Due.outside("what, of an empty text", 0, 2, x::fault);
        for (int what = 0; what <= 2; what++) {
            due("empty", x.fault(what), NOT_FOUND);
        }
        x.type('x');
        Due.outside("what, of a fault", 0, 2, x::fault);
        int[] told = {0, 1, 0};
        for (int what = 0; what <= 2; what++) {
            due("fault(" + what + ")", x.fault(what), told[what]);
        }
        Due.retype(x, "n;");
        Due.outside("what, without a fault", 0, 2, x::fault);
        for (int what = 0; what <= 2; what++) {
            due("without a fault", x.fault(what), NOT_FOUND);
        }
    }

    private static void oneChange() {
        Due.sentence("They are one change, also if there are none");
        CoughBids x = new CoughBids();
        due("none", x.play(), 0);
        due("a state for none", x.count(16), 1);
        due("undo of none", x.undo(), 0);
        Due.type(x, "n;n;n;n;n;n;n;n;n;n;n;n;n;n;n;n;n;n;n;n;n;n;n;n;n;n;n;n;n;n;");
        due("thirty, in a full text", x.play(), 30);
        due("a state for thirty", x.count(16), 1);
        due("all are done", x.count(14), 30);
        due("undo of thirty", x.undo(), 0);
        due("all are undone", x.count(14), 0);
    }

    private static void playWithFault() {
        Due.sentence("play: NOT_POSSIBLE if it has a fault");
        CoughBids x = new CoughBids();
        Due.type(x, "n;n;b5;l1,1;u;c0;");
        due("play", x.play(), NOT_POSSIBLE);
        due("nothing is done", x.count(0) + x.count(4) + x.count(14) + x.count(3), 0);
        due("no change", x.count(16), 0);
        Due.retype(x, "n;n");
        due("play of one that breaks off", x.play(), NOT_POSSIBLE);
        due("nothing is done", x.count(14), 0);
    }

    public static void main(String[] args) {
        atMostSixty();
        typeRange();
        clearsWhatThereIs();
        nothingBehindTheText();
        endsTooEarly();
        breaksOffAtEach();
        letters();
        digits();
        noDigits();
        tooManyNumbers();
        numbersInTheirPlaces();
        causesOfP();
        causesOfTheOthers();
        thoseAheadAreDone();
        firstOrderNotPossible();
        sameForBothTellings();
        faultRange();
        oneChange();
        playWithFault();
        Due.end("EdgesOfTextsTest");
    }
}
