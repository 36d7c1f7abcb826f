/** The boundary cases of texts, and of the promises 8 to 11: type, clearText, perform, stopped. */
final class TextBounds {
    private static final int UNKNOWN = RiddleTrade.UNKNOWN;
    private static final int BAD_VALUE = RiddleTrade.BAD_VALUE;
    private static final int FULL = RiddleTrade.FULL;
    private static final int NOT_POSSIBLE = RiddleTrade.NOT_POSSIBLE;
    private static final int NONE = RiddleTrade.NONE;
    private static final String TEXT = "TEXTS";
    /** Nineteen things of three characters. */
    private static final String NINETEEN = ".1;".repeat(19);

    private final Sentences s;

    TextBounds(Sentences sentences) {
        s = sentences;
    }

    void all() {
        length();
        oneOrMore();
        riddleThings();
        answerThings();
        roundThings();
        zeroInFront();
        greaterThanTold();
        faultPlaces();
        faultAtTheEnd();
        type();
        clearText();
        performInOrder();
        performAllOrNothing();
        performIsOneAct();
        performStops();
        performTells();
        performFaults();
        performNotPossible();
        stoppedTells();
        stoppedErrors();
    }

    private static Trade typed(String text) {
        Trade x = new Trade();
        x.typeAll(text);
        return x;
    }

    private void fault(String text, int place) {
        Trade x = typed(text);
        s.refused(x, x.perform(), -100 - place);
        s.due(x, x.count(19), text.length());
        s.due(x, x.stopped(0), NONE);
    }

    /** Performs a text on an exchange with the riddles 0 to 19 of trader 7, and no answers. */
    private Trade answering(String text, int things) {
        Trade x = new Trade();
        Made.riddles(x, 20);
        x.typeAll(text);
        s.due(x, x.perform(), things);
        return x;
    }

    private Trade performing(String text, int things) {
        Trade x = typed(text);
        s.due(x, x.perform(), things);
        return x;
    }

    private void length() {
        s.sentence(TEXT, "There is a text of at most 60 characters, empty at first.");
        Trade x = new Trade();
        s.due(x, x.count(19), 0);
        x.typeAll(NINETEEN);
        s.due(x, x.type('.'), 58);
        s.due(x, x.type('1'), 59);
        s.due(x, x.type('0'), 60);
        s.refused(x, x.type('0'), FULL);
        s.due(x, x.perform(), 20);
        s.due(x, x.count(0), 29);
    }

    private void oneOrMore() {
        s.sentence(TEXT, "Offers are a text: one or more of these with \";\" between two:");
        fault("", 0);
        fault(";", 0);
        fault(";.1", 0);
        fault(".1;", 3);
        fault(".1;;.1", 3);
        fault(".1.1", 2);
        fault(".1,.1", 2);
        fault(".1 ;.1", 2);
        fault(".1; .1", 3);
        fault("r0:1=0r0:1=0", 6);
        performing(".1", 1);
        performing(".1;.1", 2);
        performing(NINETEEN + ".1", 20);
        fault(NINETEEN + ".1;", 60);
    }

    private void riddleThings() {
        s.sentence(TEXT, "\"r\", a trader (0 to 7), \":\", a price (1 to 50), \"=\" and a seal (0 to 99: "
            + "a riddle is asked)");
        asked("r0:1=0", 0, 1, 0);
        asked("r7:50=99", 7, 50, 99);
        asked("r3:9=9", 3, 9, 9);
        asked("r3:10=10", 3, 10, 10);
        asked("r3:49=90", 3, 49, 90);
        fault("R0:1=0", 0);
        fault("q0:1=0", 0);
        fault("r8:1=0", 1);
        fault("r9:1=0", 1);
        fault("r/:1=0", 1);
        fault("r:1=0", 1);
        fault("r-1:1=0", 1);
        fault("r0=1=0", 2);
        fault("r0;1=0", 2);
        fault("r0:0=0", 3);
        fault("r0:=0", 3);
        fault("r0:-1=0", 3);
        fault("r0:51=0", 4);
        fault("r0:60=0", 4);
        fault("r0:1:0", 4);
        fault("r0:1=-1", 5);
        fault("r0:1=;", 5);
        fault("r0:1=100", 7);
        fault("r0:1=0*1", 6);
    }

    private void asked(String text, int asker, int price, int seal) {
        Trade x = performing(text, 1);
        s.due(x, x.riddle(0, 0), asker);
        s.due(x, x.riddle(0, 1), price);
        s.due(x, x.riddle(0, 2), seal);
        s.due(x, x.count(1), 1);
        s.due(x, x.count(18), 1);
    }

    private void answerThings() {
        s.sentence(TEXT, "\"a\", a trader, \":\", a riddle (0 to 19), \"=\", a seal, \"*\" and a weight (1 to 99: "
            + "an answer is delivered)");
        delivered("a0:0=0*1", 0, 0, 0, 1);
        delivered("a6:19=99*99", 6, 19, 99, 99);
        delivered("a6:9=9*9", 6, 9, 9, 9);
        delivered("a6:10=10*10", 6, 10, 10, 10);
        delivered("a6:1=90*90", 6, 1, 90, 90);
        fault("A0:0=0*1", 0);
        fault("b0:0=0*1", 0);
        fault("a8:0=0*1", 1);
        fault("a:0=0*1", 1);
        fault("a0=0=0*1", 2);
        fault("a0:20=0*1", 4);
        fault("a0:-1=0*1", 3);
        fault("a0:=0*1", 3);
        fault("a0:190=0*1", 5);
        fault("a0:0*0*1", 4);
        fault("a0:0=100*1", 7);
        fault("a0:0=*1", 5);
        fault("a0:0=0=1", 6);
        fault("a0:0=0;", 6);
        fault("a0:0=0*0", 7);
        fault("a0:0=0*-1", 7);
        fault("a0:0=0*;", 7);
        fault("a0:0=0*100", 9);
        fault("a0:0=0*1*1", 8);
    }

    private void delivered(String text, int giver, int riddle, int seal, int weight) {
        Trade x = answering(text, 1);
        s.due(x, x.answer(0, 0), giver);
        s.due(x, x.answer(0, 1), riddle);
        s.due(x, x.answer(0, 2), seal);
        s.due(x, x.answer(0, 3), weight);
        s.due(x, x.count(3), 1);
    }

    private void roundThings() {
        s.sentence(TEXT, "\".\" and rounds (1 to 99: they pass).");
        for (int rounds : new int[] {1, 9, 10, 19, 90, 98, 99}) {
            Trade x = performing("." + rounds, 1);
            s.due(x, x.count(0), rounds);
        }
        fault(",1", 0);
        fault(".0", 1);
        fault(".", 1);
        fault(".-1", 1);
        fault(".100", 3);
        fault(".990", 3);
        fault(".1:", 2);
        fault(".1=1", 2);
    }

    private void zeroInFront() {
        s.sentence(TEXT, "Numbers have no zero in front, unless they are the single digit 0");
        fault("r00:1=0", 2);
        fault("r01:1=0", 2);
        fault("r0:01=0", 3);
        fault("r0:00=0", 3);
        fault("r0:1=00", 6);
        fault("r0:1=01", 6);
        fault("r0:1=0;r0:1=09", 13);
        fault("a00:0=0*1", 2);
        fault("a0:00=0*1", 4);
        fault("a0:01=0*1", 4);
        fault("a0:0=00*1", 6);
        fault("a0:0=01*1", 6);
        fault("a0:0=0*01", 7);
        fault(".01", 1);
        fault(".00", 1);
        asked("r0:1=0", 0, 1, 0);
        asked("r0:10=0", 0, 10, 0);
        delivered("a0:0=0*10", 0, 0, 0, 10);
        // A zero behind another digit is in front of nothing.
        delivered("a0:10=20*30", 0, 10, 20, 30);
    }

    private void greaterThanTold() {
        s.sentence(TEXT, "; a digit by which a number would be greater than told is not allowed.");
        for (int digit = 8; digit <= 9; digit++) {
            fault("r" + digit, 1);
            fault("a" + digit, 1);
        }
        fault("r10:1=0", 2);
        fault("r70:1=0", 2);
        fault("a77:0=0*1", 2);
        for (int price : new int[] {51, 59, 60, 99}) {
            fault("r0:" + price + "=0", 4);
        }
        fault("r0:500=0", 5);
        fault("r0:100=0", 5);
        for (int riddle : new int[] {20, 21, 29, 30, 99}) {
            fault("a0:" + riddle + "=0*1", 4);
        }
        fault("a0:100=0*1", 5);
        fault("a0:199=0*1", 5);
        fault("r0:1=990", 7);
        fault("a0:0=990*1", 7);
        fault("a0:0=100*1", 7);
        fault("a0:0=0*990", 9);
        fault("a0:0=0*999", 9);
        fault(".999", 3);
        fault(".111", 3);
    }

    private void faultPlaces() {
        s.sentence(TEXT, "The fault of the text is the index, from 0, of the first character that is not allowed "
            + "at its place");
        String text = "r7:50=99;a6:19=99*99;.99;r0:1=0";
        for (int place = 0; place < text.length(); place++) {
            // No place has an 'x', nor a sign whose low byte only is that of the one that is due.
            fault(text.substring(0, place) + 'x' + text.substring(place + 1), place);
            fault(text.substring(0, place) + (char) (text.charAt(place) + 256), place);
        }
        fault((char) 0 + ".1", 0);
        fault(".1" + (char) 65535, 2);
        fault("." + (char) ('0' - 1), 1);
        fault("." + (char) ('9' + 1), 1);
        // Of two faults the first one counts, also ahead of a text that ends too early.
        fault("r8:0=100", 1);
        fault("xr", 0);
        fault(NINETEEN + ".x", 58);
        fault(NINETEEN + ".1x", 59);
        fault(NINETEEN + "..", 58);
    }

    private void faultAtTheEnd() {
        s.sentence(TEXT, ", or the length of the text if it ends too early (the empty text does).");
        fault("", 0);
        String text = "r7:50=99;a6:19=99*99;.99";
        for (int length : new int[] {1, 2, 3, 4, 5, 6, 9, 10, 11, 12, 13, 14, 15, 16, 17, 18, 21, 22}) {
            fault(text.substring(0, length), length);
        }
        fault(NINETEEN + ".", 58);
        fault(NINETEEN + "r0", 59);
        fault(NINETEEN + "r0:", 60);
        fault(NINETEEN + "a1:", 60);
    }

    private void type() {
        s.sentence("Promise 8", "Types a character behind the text.");
        Trade x = new Trade();
        x.type('.');
        x.type('1');
        s.due(x, x.perform(), 1);
        x.type('2');
        s.due(x, x.perform(), 1);
        s.due(x, x.count(0), 13);
        s.due(x, x.count(18), 2);
        s.sentence("Promise 8", "`character`: any character");
        x = new Trade();
        char[] any = {0, 1, ' ', 127, 128, 255, 256, 0xd800, 0xdfff, 0xffff};
        for (int i = 0; i < any.length; i++) {
            s.due(x, x.type(any[i]), i + 1);
        }
        s.refused(x, x.perform(), -100);
        s.sentence("Promise 8", "Returns the length of the text then");
        x = new Trade();
        for (int length = 1; length <= 60; length++) {
            s.due(x, x.type('1'), length);
            s.due(x, x.count(19), length);
        }
        s.sentence("Promise 8", "FULL if it has 60 characters");
        s.refused(x, x.type('1'), FULL);
        s.refused(x, x.type((char) 0), FULL);
        s.due(x, x.count(19), 60);
        s.due(x, x.clearText(), 60);
        s.due(x, x.type('1'), 1);
    }

    private void clearText() {
        s.sentence("Promise 9", "Empties the text.");
        Trade x = typed(".1;.1");
        x.clearText();
        s.due(x, x.count(19), 0);
        s.refused(x, x.perform(), -100);
        x.typeAll(".7");
        s.due(x, x.perform(), 1);
        s.due(x, x.count(0), 7);
        s.sentence("Promise 9", "Returns the length that it had.");
        s.due(x, x.clearText(), 2);
        s.told(x, x.clearText(), 0);
        x.typeAll("x".repeat(60));
        s.refused(x, x.type('x'), FULL);
        s.due(x, x.clearText(), 60);
        s.told(x, x.clearText(), 0);
        s.due(x, x.count(18), 1);
    }

    private void performInOrder() {
        s.sentence("Promise 10", "Does all that the text tells, which stays, one after the other "
            + "(as ask(), deliver() and pass())");
        String text = "r0:50=7;a1:0=7*99;a2:0=7*1;.1;r1:10=8;a0:1=9*50;.2";
        Trade x = performing(text, 7);
        s.due(x, x.count(19), text.length());
        Trade one = new Trade();
        one.ask(0, 50, 7);
        one.deliver(1, 0, 7, 99);
        one.deliver(2, 0, 7, 1);
        one.pass(1);
        one.ask(1, 10, 8);
        one.deliver(0, 1, 9, 50);
        one.pass(2);
        for (int what = 0; what < 18; what++) {
            s.due(x, x.count(what), one.count(what));
        }
        for (int answer = 0; answer < 3; answer++) {
            for (int what = 0; what < 9; what++) {
                s.due(x, x.answer(answer, what), one.answer(answer, what));
            }
        }
        s.due(x, x.answer(0, 7), 69);
        s.due(x, x.answer(1, 5), 1);
        s.due(x, x.answer(2, 5), 2);
        // The text stays, so it is tried again; but its first answer is to the riddle 0, which is paid.
        s.due(x, x.perform(), NOT_POSSIBLE);
        Trade rounds = performing(".9", 1);
        s.due(rounds, rounds.perform(), 1);
        s.due(rounds, rounds.perform(), 1);
        s.due(rounds, rounds.count(0), 27);
    }

    private void performAllOrNothing() {
        s.sentence("Promise 10", "; all of it, or nothing.");
        Trade x = new Trade();
        x.ask(5, 9, 1);
        x.deliver(6, 0, 1, 40);
        s.stops(x, "r0:5=5;.1;a1:1=5*50;.99;a5:1=5*50;a0:1=5*5", 4, NOT_POSSIBLE);
        s.due(x, x.count(1), 1);
        s.due(x, x.count(0), 0);
        s.due(x, x.count(18), 2);
        s.due(x, x.reason(0), 0);
    }

    private void performIsOneAct() {
        s.sentence("Promise 10", "This is one act.");
        Trade x = new Trade();
        x.ask(5, 9, 1);
        x.typeAll("r0:5=5;.1;a1:1=5*50;.9;r0:1=1;r0:1=1");
        s.acts(x, x.perform(), 6);
        s.due(x, x.count(18), 2);
        s.due(x, x.undo(), 1);
        s.due(x, x.count(0), 0);
        s.due(x, x.count(1), 1);
        s.due(x, x.count(19), 36);
        Trade full = typed(".1");
        for (int acts = 1; acts <= 6; acts++) {
            s.due(full, full.perform(), 1);
            s.due(full, full.count(18), Math.min(4, acts));
        }
    }

    private void performStops() {
        s.sentence("Promise 10", "What would return an error stops it.");
        s.stops(new Trade(), "a1:0=0*1", 0, UNKNOWN);
        s.stops(new Trade(), "r0:1=1;a1:1=1*1", 1, UNKNOWN);
        s.stops(new Trade(), "r0:1=1;a1:19=1*1;.1", 1, UNKNOWN);
        s.stops(new Trade(), "r3:1=1;a3:0=1*1", 1, NOT_POSSIBLE);
        s.stops(new Trade(), "r3:1=1;a2:0=1*1;.1;a2:0=1*1", 3, NOT_POSSIBLE);
        Trade x = new Trade();
        Made.riddles(x, 19);
        s.stops(x, "r0:1=1;r0:1=1", 1, FULL);
        Made.riddles(x, 1);
        s.stops(x, "r0:1=1", 0, FULL);
        x = new Trade();
        Made.riddles(x, 1);
        Made.wrongAnswers(x, 39);
        s.stops(x, ".1;a1:0=1*1;a1:0=1*1", 2, FULL);
        x.deliver(1, 0, 1, 1);
        s.stops(x, ".1;a1:0=0*1", 1, FULL);
        // As deliver() tells it: that this is not possible comes ahead of FULL, and UNKNOWN ahead of both.
        s.stops(x, "a7:0=0*1", 0, NOT_POSSIBLE);
        s.stops(x, "a7:1=0*1", 0, UNKNOWN);
        x = Made.roundsLeft(99);
        s.stops(x, ".98;.1;.1", 2, FULL);
        s.stops(x, ".98;.2", 1, FULL);
        x.clearText();
        x.typeAll(".98;.1");
        s.due(x, x.perform(), 2);
        s.due(x, x.count(0), 9999);
        s.stops(x, "r0:1=1;.1", 1, FULL);
    }

    private void performTells() {
        s.sentence("Promise 10", "Returns how many things the text has");
        performing(".1", 1);
        performing(NINETEEN + ".10", 20);
        performing("r0:1=1;r1:1=1;r2:1=1", 3);
        // Nothing need be paid in it.
        Trade x = performing("r0:1=1;a1:0=1*1", 2);
        s.due(x, x.count(5), 0);
    }

    private void performFaults() {
        s.sentence("Promise 10", "-100 minus the fault of the text if it has one (which is an error)");
        Trade x = new Trade();
        s.refused(x, x.perform(), -100);
        x.type('.');
        s.refused(x, x.perform(), -101);
        x.type('9');
        x.type(';');
        s.refused(x, x.perform(), -103);
        x.clearText();
        x.typeAll(NINETEEN + ".1;");
        s.refused(x, x.perform(), -160);
        x.clearText();
        x.typeAll(NINETEEN + ".1x");
        s.refused(x, x.perform(), -159);
        // A text with a fault is not begun, so nothing is stopped.
        x.clearText();
        x.typeAll("a0:0=0*1;x");
        s.refused(x, x.perform(), -109);
        s.told(x, x.stopped(0), NONE);
        s.due(x, x.count(18), 0);
    }

    private void performNotPossible() {
        s.sentence("Promise 10", "NOT_POSSIBLE if any is stopped.");
        Trade x = new Trade();
        x.typeAll(NINETEEN + ".1");
        s.due(x, x.perform(), 20);
        s.stops(x, "a1:0=0*1;.1", 0, UNKNOWN);
        s.stops(x, ".1;a1:0=0*1", 1, UNKNOWN);
        s.due(x, x.count(0), 20);
    }

    private void stoppedTells() {
        s.sentence("Promise 11", "Tells of the latest stop of perform().");
        Trade x = new Trade();
        s.stops(x, ".1;.1;a1:0=0*1", 2, UNKNOWN);
        s.stops(x, "r0:1=1;a0:0=1*1", 1, NOT_POSSIBLE);
        x.clearText();
        x.typeAll("r0:1=1;x");
        s.refused(x, x.perform(), -107);
        s.told(x, x.stopped(0), 1);
        s.told(x, x.stopped(1), NOT_POSSIBLE);
        x.clearText();
        x.typeAll("r0:1=1");
        s.due(x, x.perform(), 1);
        s.told(x, x.stopped(0), 1);
        s.told(x, x.stopped(1), NOT_POSSIBLE);
        s.sentence("Promise 11", "`what`: 0 for its number in the text, from 0, 1 for the error");
        s.stops(x, "a1:9=0*1", 0, UNKNOWN);
        s.stops(x, ".1;".repeat(17) + "a1:9=0*1", 17, UNKNOWN);
        s.sentence("Promise 11", "Returns the number");
        s.told(x, x.stopped(0), 17);
        s.told(x, x.stopped(1), UNKNOWN);
    }

    private void stoppedErrors() {
        s.sentence("Promise 11", "BAD_VALUE; NONE if nothing was stopped yet.");
        Trade x = new Trade();
        s.refused(x, x.stopped(-1), BAD_VALUE);
        s.refused(x, x.stopped(2), BAD_VALUE);
        s.refused(x, x.stopped(Integer.MIN_VALUE), BAD_VALUE);
        s.refused(x, x.stopped(Integer.MAX_VALUE), BAD_VALUE);
        s.told(x, x.stopped(0), NONE);
        s.told(x, x.stopped(1), NONE);
        s.refused(x, x.perform(), -100);
        s.told(x, x.stopped(0), NONE);
        s.stops(x, "a1:0=0*1", 0, UNKNOWN);
        s.refused(x, x.stopped(2), BAD_VALUE);
        s.refused(x, x.stopped(-1), BAD_VALUE);
    }
}
