/** Promises 8 to 11: type, clearText, perform, stopped. */
public final class TextsTest {
    private static final int UNKNOWN = RiddleTrade.UNKNOWN;
    private static final int BAD_VALUE = RiddleTrade.BAD_VALUE;
    private static final int FULL = RiddleTrade.FULL;
    private static final int NOT_POSSIBLE = RiddleTrade.NOT_POSSIBLE;
    private static final int NONE = RiddleTrade.NONE;
    private static final Due CHECK = new Due();

    public static void main(String[] args) {
        type();
        clearText();
        faults();
        faultsOfUncommonCharacters();
        textsWithoutFault();
        performDoesAllInOneAct();
        performStopsAtUnknown();
        performStopsAtFull();
        performStopsAtTheLastRound();
        performDoesAllOrNothing();
        faultsAreNoStops();
        theLatestStopStays();
        stoppedChecks();
        CHECK.end();
    }

    private static void type() {
        RiddleTrade x = new RiddleTrade();
        for (int length = 1; length <= 60; length++) {
            CHECK.due("type", x.type(length % 2 == 0 ? '\u0000' : '\uffff'), length);
        }
        CHECK.due("type when full", x.type('r'), FULL);
        CHECK.due("count(19)", x.count(19), 60);
        CHECK.due("typing is no act", x.count(18), 0);
        CHECK.due("perform()", x.perform(), -100);
    }

    private static void clearText() {
        RiddleTrade x = new RiddleTrade();
        CHECK.due("clearText() when empty", x.clearText(), 0);
        Told.type(x, ".1");
        CHECK.due("clearText()", x.clearText(), 2);
        CHECK.due("count(19)", x.count(19), 0);
        CHECK.due("perform() when empty", x.perform(), -100);
        CHECK.due("clearing is no act", x.count(18), 0);
        CHECK.due("type", x.type('.'), 1);
    }

    private static void faults() {
        fault("", 0);
        fault("x", 0);
        fault(";", 0);
        fault("1", 0);
        fault("R0:1=0", 0);
        fault(" .1", 0);
        fault("r", 1);
        fault("r8", 1);
        fault("r-1", 1);
        fault("r0", 2);
        fault("r00:1=0", 2);
        fault("r70:1=0", 2);
        fault("r0=", 2);
        fault("r0:", 3);
        fault("r0:0", 3);
        fault("r0:05", 3);
        fault("r0:=", 3);
        fault("r0:5", 4);
        fault("r0:51=0", 4);
        fault("r0:60=0", 4);
        fault("r0:5:", 4);
        fault("r0:50", 5);
        fault("r0:500=0", 5);
        fault("r0:50=", 6);
        fault("r0:50=x", 6);
        fault("r0:50=00", 7);
        fault("r0:50=01", 7);
        fault("r0:50=100", 8);
        fault("r0:50=5*", 7);
        fault("r0:50=5,", 7);
        fault("r0:50=5;", 8);
        fault("r0:50=5;;", 8);
        fault("a", 1);
        fault("a8", 1);
        fault("a0:", 3);
        fault("a0:20=0*1", 4);
        fault("a0:19", 5);
        fault("a0:190=0*1", 5);
        fault("a0:00=0*1", 4);
        fault("a0:3=", 5);
        fault("a0:3=99", 7);
        fault("a0:3=990*1", 7);
        fault("a0:3=99;", 7);
        fault("a0:3=99*", 8);
        fault("a0:3=99*0", 8);
        fault("a0:3=99*100", 10);
        fault("a0:3=99*99.", 10);
        fault(".", 1);
        fault(".0", 1);
        fault(".100", 3);
        fault(".x", 1);
        fault(".1;", 3);
        fault(".1.1", 2);
        fault(".1;.2;r0:1=1;a1:0=1", 19);
        fault(".1;.2;r0:1=1;a1:0=1*1;x", 22);
        fault(".1;.1;.1;.1;.1;.1;.1;.1;.1;.1;.1;.1;.1;.1;.1;.1;.1;.1;.1;.1;", 60);
        fault("a1:10=10*10;a1:10=10*10;a1:10=10*10;a1:10=10*10;a1:10=10*1;a", 60);
    }

    private static void faultsOfUncommonCharacters() {
        RiddleTrade x = new RiddleTrade();
        fault("\u0000", 0);
        fault(".\u0661", 1);
        fault(".1\u0000", 2);
        fault("\uff0e1", 0);
        fault("." + (char) ('0' - 1), 1);
        fault("." + (char) ('9' + 1), 1);
        // A sign whose low byte is that of 'r'.
        fault((char) ('r' + 256) + "0:1=0", 0);
        CHECK.due("perform()", x.perform(), -100);
    }

    private static void fault(String text, int fault) {
        RiddleTrade x = new RiddleTrade();
        Told.type(x, text);
        String before = Told.all(x);
        CHECK.due("perform() of " + text, x.perform(), -100 - fault);
        same("a fault in " + text, x, before);
    }

    private static void textsWithoutFault() {
        performs("r0:1=0", 1);
        performs("r7:50=99", 1);
        performs("r7:9=10;r6:10=9;r5:49=90", 3);
        performs(".1", 1);
        performs(".99", 1);
        performs(".9;.10;.90", 3);
        performs("r0:1=1;a1:0=0*1", 2);
        performs("r0:1=1;a7:0=99*99;a1:0=10*10;a2:0=9*90", 4);
        performs(".1;.1;.1;.1;.1;.1;.1;.1;.1;.1;.1;.1;.1;.1;.1;.1;.1;.1;.1;.1", 20);
        RiddleTrade x = new RiddleTrade();
        for (int riddle = 0; riddle < 20; riddle++) {
            x.ask(0, 1, 0);
        }
        Told.type(x, "a1:19=0*1;a1:9=0*1;a1:10=0*1");
        CHECK.due("perform() of answers", x.perform(), 3);
        CHECK.due("answer(0, 1)", x.answer(0, 1), 19);
        CHECK.due("answer(1, 1)", x.answer(1, 1), 9);
        CHECK.due("answer(2, 1)", x.answer(2, 1), 10);
    }

    private static void performs(String text, int things) {
        RiddleTrade x = new RiddleTrade();
        Told.type(x, text);
        CHECK.due("perform() of " + text, x.perform(), things);
        CHECK.due("count(18) of " + text, x.count(18), 1);
        CHECK.due("count(19) of " + text, x.count(19), text.length());
    }

    private static void performDoesAllInOneAct() {
        RiddleTrade x = new RiddleTrade();
        x.ask(3, 2, 1);
        Told.type(x, "r0:50=7;a1:1=7*99;a0:0=1*12;.2;r5:10=99;.98");
        CHECK.due("perform()", x.perform(), 6);
        CHECK.dueRow("count", Told.counts(x),
            100, 3, 1, 2, 0, 2, 0, 0, 4, 0, 0, 73, 11, 7, 2, 4, 3, 50, 2, 43);
        CHECK.dueRow("riddle 1", Told.riddle(x, 1), 0, 50, 7, 1, 1, 0, 0);
        CHECK.dueRow("riddle 2", Told.riddle(x, 2), 5, 10, 99, 0, 0, 0, NONE);
        CHECK.dueRow("answer 0", Told.answer(x, 0), 1, 1, 7, 99, 1, 0, 0, 69, NONE);
        CHECK.dueRow("answer 1", Told.answer(x, 1), 0, 0, 1, 12, 1, 0, 0, 4, NONE);
        CHECK.due("stopped(0)", x.stopped(0), NONE);
        // The text stays, but its third thing answers a riddle that is paid by now.
        CHECK.due("perform() again", x.perform(), NOT_POSSIBLE);
        CHECK.due("stopped(0) then", x.stopped(0), 1);
        CHECK.due("stopped(1) then", x.stopped(1), NOT_POSSIBLE);
        CHECK.due("undo()", x.undo(), 1);
        CHECK.dueRow("count then", Told.counts(x),
            0, 1, 1, 0, 0, 0, 0, 0, 0, 0, 0, 0, 9, 9, 2, 4, 3, 50, 1, 43);
    }

    private static void performStopsAtUnknown() {
        stops(new RiddleTrade(), "r0:1=1;a1:1=1*1", 1, UNKNOWN);
        stops(new RiddleTrade(), "a1:0=1*1", 0, UNKNOWN);
        stops(new RiddleTrade(), ".5;.6;r0:1=1;a0:0=1*1", 3, NOT_POSSIBLE);
        stops(new RiddleTrade(), "r0:1=1;a1:0=1*1;.1;a1:0=1*1;a1:9=1*1", 3, NOT_POSSIBLE);
    }

    private static void performStopsAtFull() {
        RiddleTrade x = new RiddleTrade();
        for (int riddle = 0; riddle < 19; riddle++) {
            x.ask(0, 1, 1);
        }
        stops(x, "r1:1=1;r2:2=2", 1, FULL);
        CHECK.due("count(1)", x.count(1), 19);
        for (int answer = 0; answer < 39; answer++) {
            x.deliver(1, 0, 0, 1);
        }
        stops(x, "r1:1=1;a2:0=1*1;a3:19=1*1;r1:1=1", 2, FULL);
        CHECK.due("count(3)", x.count(3), 39);
    }

    private static void performStopsAtTheLastRound() {
        RiddleTrade x = new RiddleTrade();
        for (int i = 0; i < 100; i++) {
            x.pass(99);
        }
        stops(x, ".90;.9;.1", 2, FULL);
        CHECK.due("count(0)", x.count(0), 9900);
        Told.type(x, ".90;.9");
        CHECK.due("perform()", x.perform(), 2);
        CHECK.due("count(0) then", x.count(0), 9999);
    }

    private static void stops(RiddleTrade x, String text, int number, int error) {
        Told.type(x, text);
        String before = Told.all(x);
        int line = before.indexOf("\nstopped");
        CHECK.due("perform() of " + text, x.perform(), NOT_POSSIBLE);
        CHECK.due("stopped(0) of " + text, x.stopped(0), number);
        CHECK.due("stopped(1) of " + text, x.stopped(1), error);
        String then = Told.all(x);
        CHECK.due("all but the stop of " + text,
            then.startsWith(before.substring(0, line) + "\nstopped") ? 1 : 0, 1);
    }

    private static void performDoesAllOrNothing() {
        RiddleTrade x = new RiddleTrade();
        x.ask(0, 50, 1);
        x.deliver(1, 0, 1, 99);
        x.undo();
        x.deliver(1, 0, 1, 98);
        stops(x, "r2:5=5;.9;a1:1=5*5;.1;a1:0=1*1", 4, NOT_POSSIBLE);
        CHECK.due("pass(1) goes on as before", x.pass(1), 1);
        CHECK.due("answer(0, 7)", x.answer(0, 7), 69);
        CHECK.due("count(18)", x.count(18), 3);
    }

    private static void faultsAreNoStops() {
        RiddleTrade x = new RiddleTrade();
        Told.type(x, "a1:0=1*1;");
        CHECK.due("perform() with a fault and what would stop", x.perform(), -109);
        CHECK.due("stopped(0)", x.stopped(0), NONE);
        x.clearText();
        Told.type(x, "a1:0=1*1");
        CHECK.due("perform()", x.perform(), NOT_POSSIBLE);
        x.type('x');
        CHECK.due("perform() with a fault", x.perform(), -108);
        CHECK.due("stopped(0) then", x.stopped(0), 0);
        CHECK.due("stopped(1) then", x.stopped(1), UNKNOWN);
    }

    private static void theLatestStopStays() {
        RiddleTrade x = new RiddleTrade();
        stops(x, ".1;a1:0=1*1", 1, UNKNOWN);
        x.keep();
        stops(x, "r0:1=1;.1;a0:0=1*1", 2, NOT_POSSIBLE);
        Told.type(x, "r0:1=1");
        CHECK.due("perform()", x.perform(), 1);
        CHECK.due("stopped(0) behind one that was done", x.stopped(0), 2);
        x.undo();
        x.restore();
        x.clearText();
        CHECK.due("stopped(0) behind undo and restore", x.stopped(0), 2);
        CHECK.due("stopped(1) behind undo and restore", x.stopped(1), NOT_POSSIBLE);
    }

    private static void stoppedChecks() {
        RiddleTrade x = new RiddleTrade();
        CHECK.due("stopped(-1)", x.stopped(-1), BAD_VALUE);
        CHECK.due("stopped(2)", x.stopped(2), BAD_VALUE);
        CHECK.due("stopped(0)", x.stopped(0), NONE);
        CHECK.due("stopped(1)", x.stopped(1), NONE);
    }

    private static void same(String call, RiddleTrade x, String before) {
        CHECK.due(call + " changes nothing", Told.all(x).equals(before) ? 1 : 0, 1);
    }
}
