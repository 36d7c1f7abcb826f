/** Promises 12 to 14: undo, keep, restore. */
public final class HistoryTest {
    private static final int NONE = RiddleTrade.NONE;
    private static final Due CHECK = new Due();

    public static void main(String[] args) {
        undoOfEachAct();
        actsBehindOutlooksAndStops();
        undoIsNoAct();
        fourStatesAreKept();
        errorsAndNoneAreNotRecorded();
        whatUndoLeaves();
        keep();
        restore();
        restoreIsAnAct();
        theSnapshotIsNoPartOfAState();
        CHECK.end();
    }

    /** An exchange in the midst of things: paid, refused, doubted, in debt, with answers that wait. */
    private static RiddleTrade busy() {
        RiddleTrade x = new RiddleTrade();
        x.set(0, 1);
        x.set(2, 2);
        x.set(3, 400);
        Told.type(x, "r0:50=1;r0:50=1;r1:40=2;r2:9=3;a3:0=1*90;a4:1=1*90");
        x.perform();
        Told.type(x, "a5:2=3*9;a6:2=2*50;a7:3=3*30;a0:3=3*20;a1:1=1*9;.1");
        x.perform();
        return x;
    }

    private static void undoOfEachAct() {
        for (int act = 0; act < 8; act++) {
            RiddleTrade x = busy();
            x.keep();
            x.pass(2);
            CHECK.due("count(18)", x.count(18), 4);
            String before = stateOf(x);
            CHECK.due("the act " + act + " is done", doAct(x, act) >= 0 ? 1 : 0, 1);
            CHECK.due("the act " + act + " changes the state", stateOf(x).equals(before) ? 1 : 0, 0);
            CHECK.due("undo() of the act " + act, x.undo(), 3);
            CHECK.due("undo() of the act " + act + " restores", stateOf(x).equals(before) ? 1 : 0, 1);
        }
    }

    /** What was only thought of, or stopped, is in no act that comes behind it. */
    private static void actsBehindOutlooksAndStops() {
        for (int act = 0; act < 8; act++) {
            RiddleTrade plain = busy();
            plain.keep();
            plain.pass(2);
            RiddleTrade x = busy();
            x.keep();
            x.pass(2);
            x.ifRounds(50, true);
            x.settledIn(x.waits(0));
            Told.type(x, "r0:1=1;r0:2=2;.9;a0:19=1*1");
            CHECK.due("perform()", x.perform(), RiddleTrade.NOT_POSSIBLE);
            // The other one has the same stop, and else just what was done.
            Told.type(plain, "r0:1=1;r0:2=2;.9;a0:19=1*1");
            plain.perform();
            x.ifRounds(99, true);
            CHECK.due("the act " + act, doAct(x, act), doAct(plain, act));
            CHECK.due("the act " + act + " is of the state", Told.all(x).equals(Told.all(plain)) ? 1 : 0, 1);
        }
    }

    private static int doAct(RiddleTrade x, int act) {
        switch (act) {
            case 0:
                return x.ask(4, 5, 6);
            case 1:
                return x.withdraw(3);
            case 2:
                return x.deliver(7, 3, 5, 6);
            case 3:
                return x.adjust();
            case 4:
                return x.set(1, 9);
            case 5:
                return x.pass(1);
            case 6:
                Told.type(x, "r7:9=9;.1");
                return x.perform();
            default:
                return x.restore();
        }
    }

    /** All that is told but the states in the history and the length of the text. */
    private static String stateOf(RiddleTrade x) {
        String told = Told.all(x);
        String counts = " " + x.count(18) + " " + x.count(19) + "\n";
        return told.replaceFirst(counts, "\n");
    }

    private static void undoIsNoAct() {
        RiddleTrade x = new RiddleTrade();
        x.ask(0, 1, 1);
        x.ask(1, 2, 2);
        CHECK.due("undo()", x.undo(), 1);
        CHECK.due("count(1)", x.count(1), 1);
        CHECK.due("undo() again", x.undo(), 0);
        CHECK.due("count(1) then", x.count(1), 0);
        CHECK.due("undo() of nothing", x.undo(), NONE);
        CHECK.due("count(1) still", x.count(1), 0);
        // What was undone leaves nothing behind.
        CHECK.due("ask(2, 3, 4)", x.ask(2, 3, 4), 0);
        CHECK.dueRow("riddle 0", Told.riddle(x, 0), 2, 3, 4, 0, 0, 0, NONE);
        x.deliver(3, 0, 5, 6);
        x.pass(1);
        CHECK.due("answer(0, 5)", x.answer(0, 5), 2);
        CHECK.due("undo()", x.undo(), 2);
        CHECK.due("undo()", x.undo(), 1);
        CHECK.due("deliver(4, 0, 4, 7)", x.deliver(4, 0, 4, 7), 0);
        CHECK.dueRow("answer 0", Told.answer(x, 0), 4, 0, 4, 7, 0, 0, 0, 0, 0);
    }

    private static void fourStatesAreKept() {
        RiddleTrade x = new RiddleTrade();
        for (int i = 1; i <= 11; i++) {
            x.pass(i);
            CHECK.due("count(18)", x.count(18), Math.min(i, 4));
        }
        CHECK.due("count(0)", x.count(0), 66);
        int[] rounds = {55, 45, 36, 28};
        for (int i = 0; i < 4; i++) {
            CHECK.due("undo()", x.undo(), 3 - i);
            CHECK.due("count(0) then", x.count(0), rounds[i]);
        }
        CHECK.due("undo() of no more", x.undo(), NONE);
        CHECK.due("count(0) still", x.count(0), 28);
        x.pass(2);
        x.pass(3);
        CHECK.due("undo()", x.undo(), 1);
        CHECK.due("count(0) at last", x.count(0), 30);
    }

    private static void errorsAndNoneAreNotRecorded() {
        RiddleTrade x = new RiddleTrade();
        x.ask(8, 1, 1);
        x.ask(0, 0, 1);
        x.withdraw(0);
        x.deliver(0, 0, 0, 1);
        x.adjust();
        x.set(0, 2);
        x.set(4, 0);
        x.pass(0);
        x.perform();
        x.undo();
        x.restore();
        x.type('.');
        x.type('1');
        x.clearText();
        x.keep();
        x.settledIn(0);
        x.ifRounds(9, true);
        CHECK.due("count(18)", x.count(18), 0);
    }

    private static void whatUndoLeaves() {
        RiddleTrade x = new RiddleTrade();
        x.ask(0, 1, 1);
        Told.type(x, "a0:0=1*1");
        x.perform();
        CHECK.due("undo()", x.undo(), 0);
        CHECK.due("count(19)", x.count(19), 8);
        CHECK.due("stopped(0)", x.stopped(0), 0);
        CHECK.due("stopped(1)", x.stopped(1), RiddleTrade.NOT_POSSIBLE);
        x.set(1, 7);
        x.set(1, 8);
        CHECK.due("undo() of a setting", x.undo(), 1);
        CHECK.due("count(15)", x.count(15), 7);
    }

    private static void keep() {
        RiddleTrade x = new RiddleTrade();
        CHECK.due("keep() of a new one", x.keep(), 0);
        x.ask(0, 1, 1);
        x.deliver(1, 0, 1, 1);
        x.deliver(2, 0, 1, 1);
        CHECK.due("keep()", x.keep(), 2);
        CHECK.due("keep() is no act", x.count(18), 3);
        x.pass(1);
        CHECK.due("keep() then", x.keep(), 0);
    }

    private static void restore() {
        RiddleTrade x = busy();
        CHECK.due("restore() without a snapshot", x.restore(), NONE);
        int states = x.count(18);
        String before = stateOf(x);
        int waiting = x.keep();
        CHECK.due("keep()", waiting, x.count(4));
        x.pass(9);
        x.ask(1, 2, 3);
        x.set(0, 9);
        CHECK.due("restore()", x.restore(), waiting);
        CHECK.due("restore() restores", stateOf(x).equals(before) ? 1 : 0, 1);
        CHECK.due("count(18)", x.count(18), 4);
        CHECK.due("states before", states, 4);
        x.pass(1);
        CHECK.due("restore() again, the snapshot stays", x.restore(), waiting);
        CHECK.due("restore() restores again", stateOf(x).equals(before) ? 1 : 0, 1);
    }

    private static void restoreIsAnAct() {
        RiddleTrade x = new RiddleTrade();
        x.ask(0, 1, 1);
        x.deliver(1, 0, 1, 1);
        x.keep();
        x.pass(5);
        x.keep();
        x.pass(6);
        CHECK.due("restore()", x.restore(), 0);
        CHECK.due("count(0)", x.count(0), 5);
        CHECK.due("count(18)", x.count(18), 4);
        CHECK.due("undo()", x.undo(), 3);
        CHECK.due("count(0) then", x.count(0), 11);
        // Even a snapshot of the very state is restored and recorded.
        x.keep();
        CHECK.due("restore() of the same", x.restore(), 0);
        CHECK.due("count(18) then", x.count(18), 4);
    }

    private static void theSnapshotIsNoPartOfAState() {
        RiddleTrade x = new RiddleTrade();
        x.pass(1);
        x.keep();
        x.undo();
        CHECK.due("count(0)", x.count(0), 0);
        CHECK.due("restore()", x.restore(), 0);
        CHECK.due("count(0) then", x.count(0), 1);
        Told.type(x, ".9");
        x.restore();
        CHECK.due("restore() leaves the text", x.count(19), 2);
    }
}
