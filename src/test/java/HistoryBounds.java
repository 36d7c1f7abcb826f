/** The boundary cases of the history, and of the promises 12 to 14: undo, keep, restore. */
final class HistoryBounds {
    private static final int NONE = RiddleTrade.NONE;
    private static final String HISTORY = "HISTORY";

    private final Sentences s;

    HistoryBounds(Sentences sentences) {
        s = sentences;
    }

    void all() {
        fourStates();
        theOldestIsDropped();
        theLatestIsRestored();
        actsAreRecorded();
        othersAreNotRecorded();
        errorsAreNotRecorded();
        snapshot();
        whatIsNoState();
        undo();
        undoTells();
        keep();
        keepTells();
        restore();
        restoreTells();
    }

    private void fourStates() {
        s.sentence(HISTORY, "A history of at most 4 states is kept");
        Trade x = new Trade();
        s.due(x, x.count(18), 0);
        for (int acts = 1; acts <= 4; acts++) {
            x.pass(acts);
            s.due(x, x.count(18), acts);
        }
        for (int acts = 5; acts <= 13; acts++) {
            x.pass(acts);
            s.due(x, x.count(18), 4);
        }
    }

    private void theOldestIsDropped() {
        s.sentence(HISTORY, "; when one more is recorded, the oldest one is dropped");
        Trade x = new Trade();
        for (int acts = 1; acts <= 5; acts++) {
            x.pass(1);
        }
        for (int round = 4; round >= 1; round--) {
            s.due(x, x.undo(), round - 1);
            s.due(x, x.count(0), round);
        }
        // The state of the round 0 was dropped.
        s.told(x, x.undo(), NONE);
        s.due(x, x.count(0), 1);
        // The room goes around: whichever place is the oldest, four states are kept in their order.
        for (int acts = 1; acts <= 9; acts++) {
            Trade y = new Trade();
            for (int i = 0; i < acts; i++) {
                y.pass(1);
            }
            y.undo();
            y.pass(7);
            y.pass(8);
            int kept = Math.min(4, Math.min(4, acts) + 1);
            s.due(y, y.count(18), kept);
            s.due(y, y.undo(), kept - 1);
            s.due(y, y.count(0), acts - 1 + 7);
            s.due(y, y.undo(), kept - 2);
            s.due(y, y.count(0), acts - 1);
        }
    }

    private void theLatestIsRestored() {
        s.sentence(HISTORY, "; undo() removes and restores the latest one.");
        Trade x = new Trade();
        x.ask(0, 1, 0);
        x.ask(1, 2, 3);
        s.due(x, x.undo(), 1);
        s.due(x, x.count(1), 1);
        s.due(x, x.count(18), 1);
        s.due(x, x.riddle(0, 0), 0);
        s.refused(x, x.riddle(1, 0), RiddleTrade.UNKNOWN);
        s.due(x, x.undo(), 0);
        s.due(x, x.count(1), 0);
        s.due(x, x.count(18), 0);
    }

    private void actsAreRecorded() {
        s.sentence(HISTORY, "Each call of a method that is described as an act, and returns no error and not NONE, "
            + "records the state that was before it.");
        Trade x = begun();
        s.acts(x, x.ask(1, 1, 1), 2);
        x = begun();
        s.acts(x, x.withdraw(1), 1);
        x = begun();
        s.acts(x, x.deliver(5, 1, 0, 1), 2);
        x = begun();
        s.acts(x, x.adjust(), 2);
        x = begun();
        s.acts(x, x.set(2, 2), 3);
        x = begun();
        s.acts(x, x.pass(1), 0);
        x = begun();
        s.acts(x, x.perform(), 2);
        x = begun();
        s.acts(x, x.restore(), 0);
        // Also an act that ends as it began.
        x = begun();
        x.keep();
        s.acts(x, x.restore(), 1);
    }

    /** One state in the history, things in the text, a snapshot; drifts, and answers that are paid and wait. */
    private static Trade begun() {
        Trade x = new Trade();
        x.keep();
        x.typeAll("r7:1=0;r7:1=0;a6:0=0*1;.1;a6:1=1*1");
        x.perform();
        x.clearText();
        x.typeAll("r1:1=1;.2");
        return x;
    }

    private void othersAreNotRecorded() {
        s.sentence(HISTORY, "a method that is described as an act");
        Trade x = new Trade();
        Made.riddles(x, 1);
        Made.wrongAnswers(x, 1);
        s.due(x, x.count(18), 2);
        x.type('.');
        x.clearText();
        x.keep();
        x.stopped(0);
        x.trader(0, 1);
        x.riddle(0, 1);
        x.answer(0, 1);
        x.waits(0);
        x.weigh(0, 1);
        x.reason(0);
        x.settledIn(0);
        x.ifRounds(9, true);
        x.richest();
        x.account(0);
        s.due(x, x.count(18), 2);
        s.due(x, x.undo(), 1);
        s.due(x, x.count(18), 1);
    }

    private void errorsAreNotRecorded() {
        s.sentence(HISTORY, "and returns no error and not NONE");
        Trade x = new Trade();
        s.refused(x, x.ask(0, 0, 0), RiddleTrade.BAD_VALUE);
        s.refused(x, x.withdraw(0), RiddleTrade.UNKNOWN);
        s.refused(x, x.deliver(0, 0, 0, 1), RiddleTrade.UNKNOWN);
        s.told(x, x.adjust(), NONE);
        s.told(x, x.set(0, 2), NONE);
        s.refused(x, x.set(0, 10), RiddleTrade.BAD_VALUE);
        s.refused(x, x.pass(0), RiddleTrade.BAD_VALUE);
        s.refused(x, x.perform(), -100);
        s.told(x, x.restore(), NONE);
        s.stops(x, ".1;a0:0=0*1", 1, RiddleTrade.UNKNOWN);
        s.due(x, x.count(18), 0);
        s.told(x, x.undo(), NONE);
        // With a full history, the oldest state is still there.
        Trade full = new Trade();
        for (int acts = 0; acts < 4; acts++) {
            full.pass(1);
        }
        s.refused(full, full.ask(0, 0, 0), RiddleTrade.BAD_VALUE);
        s.told(full, full.set(0, 2), NONE);
        s.stops(full, ".1;a0:0=0*1", 1, RiddleTrade.UNKNOWN);
        for (int left = 3; left >= 0; left--) {
            s.due(full, full.undo(), left);
        }
        s.due(full, full.count(0), 0);
    }

    private void snapshot() {
        s.sentence(HISTORY, "There is one snapshot, empty at first.");
        Trade x = new Trade();
        s.told(x, x.restore(), NONE);
        x.pass(1);
        s.told(x, x.restore(), NONE);
        x.keep();
        x.pass(2);
        x.keep();
        x.pass(3);
        s.due(x, x.restore(), 0);
        s.due(x, x.count(0), 3);
        s.due(x, x.restore(), 0);
        s.due(x, x.count(0), 3);
    }

    private void whatIsNoState() {
        s.sentence(HISTORY, "A state is everything but the text, the history, the snapshot and the latest stop.");
        Trade x = new Trade();
        x.pass(1);
        s.stops(x, "a0:0=0*1", 0, RiddleTrade.UNKNOWN);
        x.keep();
        x.clearText();
        x.typeAll(".5");
        s.due(x, x.undo(), 0);
        s.due(x, x.count(0), 0);
        s.due(x, x.count(19), 2);
        s.due(x, x.stopped(0), 0);
        s.due(x, x.stopped(1), RiddleTrade.UNKNOWN);
        // Neither undo() nor restore() brings back the snapshot, the stop or the text that was.
        s.due(x, x.restore(), 0);
        s.due(x, x.count(0), 1);
        s.due(x, x.count(18), 1);
        s.due(x, x.count(19), 2);
        s.stops(x, ".1;a0:0=0*1", 1, RiddleTrade.UNKNOWN);
        s.due(x, x.restore(), 0);
        s.due(x, x.stopped(0), 1);
        s.due(x, x.undo(), 1);
        s.due(x, x.undo(), 0);
        s.due(x, x.stopped(0), 1);
        s.due(x, x.count(19), 11);
        // All else is in it: settings, drifts, weighings, fees, doubts, the row.
        Trade all = begun();
        int[] counts = new int[18];
        for (int what = 0; what < counts.length; what++) {
            counts[what] = all.count(what);
        }
        all.set(0, 0);
        all.set(1, 1);
        all.deliver(5, 1, 0, 1);
        all.pass(9);
        for (int left = 3; left >= 0; left--) {
            s.due(all, all.undo(), left);
        }
        // Five acts were done, of which the last four are undone.
        for (int what = 0; what < counts.length; what++) {
            s.due(all, all.count(what), counts[what]);
        }
    }

    private void undo() {
        s.sentence("Promise 12", "Removes and restores the latest state of the history.");
        Trade x = begun();
        s.acts(x, x.pass(1), 0);
        s.due(x, x.count(6), 1);
        s.due(x, x.undo(), 1);
        s.due(x, x.count(6), 0);
        s.due(x, x.waits(0), 1);
        s.due(x, x.undo(), 0);
        s.due(x, x.count(1), 0);
        // What was undone can be done again, in another way.
        s.due(x, x.ask(3, 4, 5), 0);
        s.due(x, x.riddle(0, 0), 3);
        s.due(x, x.count(18), 1);
    }

    private void undoTells() {
        s.sentence("Promise 12", "Returns the number of states that are left");
        Trade x = new Trade();
        x.pass(1);
        s.due(x, x.undo(), 0);
        for (int acts = 0; acts < 6; acts++) {
            x.pass(1);
        }
        for (int left = 3; left >= 0; left--) {
            s.due(x, x.undo(), left);
            s.due(x, x.count(18), left);
        }
        s.sentence("Promise 12", "NONE if the history is empty.");
        s.told(x, x.undo(), NONE);
        s.due(x, x.count(0), 2);
        Trade empty = new Trade();
        s.told(empty, empty.undo(), NONE);
        s.told(empty, empty.undo(), NONE);
    }

    private void keep() {
        s.sentence("Promise 13", "Takes a snapshot of the state, in place of the one that was.");
        Trade x = new Trade();
        x.keep();
        x.pass(1);
        x.keep();
        x.pass(1);
        s.due(x, x.restore(), 0);
        s.due(x, x.count(0), 1);
        // Nothing that is told or recorded is another one by keep().
        x.pass(4);
        s.due(x, x.count(18), 4);
        x.keep();
        s.due(x, x.count(0), 5);
        s.due(x, x.count(18), 4);
        s.due(x, x.undo(), 3);
        s.due(x, x.count(0), 1);
    }

    private void keepTells() {
        s.sentence("Promise 13", "Returns how many answers wait.");
        Trade x = new Trade();
        s.due(x, x.keep(), 0);
        Made.riddles(x, 1);
        Made.wrongAnswers(x, 40);
        s.due(x, x.keep(), 40);
        x.pass(1);
        s.due(x, x.keep(), 37);
        x.pass(13);
        s.due(x, x.keep(), 0);
    }

    private void restore() {
        s.sentence("Promise 14", "Restores the state of the snapshot, which stays. This is an act.");
        Trade x = begun();
        x.keep();
        x.pass(3);
        s.due(x, x.count(6), 1);
        s.acts(x, x.restore(), 1);
        s.due(x, x.count(6), 0);
        s.due(x, x.waits(0), 1);
        x.pass(3);
        s.due(x, x.restore(), 1);
        s.due(x, x.waits(0), 1);
        s.due(x, x.undo(), 3);
        s.due(x, x.count(6), 1);
        s.due(x, x.restore(), 1);
    }

    private void restoreTells() {
        s.sentence("Promise 14", "Returns how many answers wait then");
        Trade x = new Trade();
        Made.riddles(x, 1);
        Made.wrongAnswers(x, 40);
        x.keep();
        x.pass(14);
        s.due(x, x.restore(), 40);
        s.due(x, x.count(4), 40);
        x.pass(14);
        x.keep();
        x.undo();
        s.due(x, x.count(4), 40);
        s.due(x, x.restore(), 0);
        s.due(x, x.count(4), 0);
        s.sentence("Promise 14", "NONE if there is no snapshot.");
        Trade empty = begunWithoutSnapshot();
        s.told(empty, empty.restore(), NONE);
        empty.undo();
        s.told(empty, empty.restore(), NONE);
    }

    private static Trade begunWithoutSnapshot() {
        Trade x = new Trade();
        Made.riddles(x, 1);
        Made.wrongAnswers(x, 1);
        return x;
    }
}
