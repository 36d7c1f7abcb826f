/** The boundary cases of the terms: traders, riddles, answers, scales, errors; and the calls that are promised. */
final class TermsBounds {
    private static final int UNKNOWN = RiddleTrade.UNKNOWN;
    private static final int BAD_VALUE = RiddleTrade.BAD_VALUE;
    private static final int FULL = RiddleTrade.FULL;
    private static final int NOT_POSSIBLE = RiddleTrade.NOT_POSSIBLE;
    private static final int NONE = RiddleTrade.NONE;
    private static final String TRADERS = "TRADERS, RIDDLES";
    private static final String ANSWERS = "ANSWERS";
    private static final String SCALES = "SCALES";
    private static final String ERRORS = "ERRORS";

    private final Sentences s;

    TermsBounds(Sentences sentences) {
        s = sentences;
    }

    void all() {
        calls();
        traders();
        debts();
        house();
        riddles();
        whatARiddleHas();
        answers();
        whatAnAnswerHas();
        whoCannotAnswer();
        endOfTheRow();
        scales();
        weighing();
        drift();
        driftTurns();
        driftTurnsAtALowerSetting();
        constants();
        orderOfErrors();
        noneIsNoError();
        errorsChangeNothing();
    }

    private void calls() {
        s.sentence("What it is", "An object is used for at most 512 calls after it has been made; "
            + "what later calls answer is free.");
        Trade x = new Trade();
        for (int call = 1; call < Trade.MOST_CALLS; call++) {
            s.due(x, x.pass(1), 0);
        }
        s.due(x, x.count(0), Trade.MOST_CALLS - 1);
        s.dueConstant("calls", x.callsMade(), 512);
    }

    private void traders() {
        s.sentence(TRADERS, "There are 8 traders, 0 to 7, each with 100 coins at first");
        Trade x = new Trade();
        for (int trader = 0; trader < 8; trader++) {
            s.due(x, x.trader(trader, 1), 100);
            s.due(x, x.trader(trader, 0), 0);
        }
        s.refused(x, x.trader(-1, 1), UNKNOWN);
        s.refused(x, x.trader(8, 1), UNKNOWN);
    }

    private void debts() {
        s.sentence(TRADERS, "the coins of a trader can be below 0 (a debt), down to less than 0 by the setting 3 "
            + "(0 to 500; 50 at first)");
        Trade x = new Trade();
        s.due(x, x.count(17), 50);
        debt(0, 0);
        debt(1, 0);
        debt(50, 2);
        debt(499, 5);
        debt(500, 5);
    }

    /** A debt of just so much can be made, and then has the fee of the round; one coin more can't be paid. */
    private void debt(int most, int fee) {
        Trade x = Made.generous(most);
        int answers = Made.answersFor(x, 0, 1, 100 + most);
        s.due(x, x.pass(1), answers);
        s.due(x, x.trader(0, 0), most + fee);
        s.due(x, x.trader(0, 1), 0);
        Trade more = Made.generous(most);
        answers = Made.answersFor(more, 0, 1, 100 + most + 1);
        s.due(more, more.pass(1), answers - 1);
        s.due(more, more.count(4), 1);
        s.due(more, more.reason(answers - 1), 4);
    }

    private void house() {
        s.sentence(TRADERS, "The house has 0 coins at first.");
        Trade x = new Trade();
        s.due(x, x.count(9), 0);
    }

    private void riddles() {
        s.sentence(TRADERS, "At most 20 riddles are asked ever, numbered from 0");
        Trade x = new Trade();
        for (int riddle = 0; riddle < 20; riddle++) {
            s.due(x, x.ask(7, 1, 0), riddle);
        }
        s.refused(x, x.ask(7, 1, 0), FULL);
        s.due(x, x.withdraw(0), 0);
        s.refused(x, x.ask(7, 1, 0), FULL);
        x.deliver(6, 19, 0, 1);
        s.due(x, x.pass(1), 1);
        s.refused(x, x.ask(7, 1, 0), FULL);
        // What is undone was not asked.
        for (int undone = 0; undone < 4; undone++) {
            s.due(x, x.undo(), 3 - undone);
        }
        s.due(x, x.ask(6, 2, 3), 19);
        s.due(x, x.riddle(19, 0), 6);
        s.refused(x, x.ask(7, 1, 0), FULL);
    }

    private void whatARiddleHas() {
        s.sentence(TRADERS, "each has an asker, a price (1 to 50), a seal (0 to 99), and is open, paid, or withdrawn.");
        Trade x = new Trade();
        s.refused(x, x.ask(0, 0, 0), BAD_VALUE);
        s.refused(x, x.ask(0, 51, 0), BAD_VALUE);
        s.refused(x, x.ask(0, 1, -1), BAD_VALUE);
        s.refused(x, x.ask(0, 1, 100), BAD_VALUE);
        riddleHas(x, x.ask(0, 1, 0), 0, 1, 0);
        riddleHas(x, x.ask(7, 50, 99), 7, 50, 99);
        s.due(x, x.riddle(0, 3), 0);
        x.withdraw(0);
        s.due(x, x.riddle(0, 3), 2);
        x.deliver(0, 1, 99, 1);
        x.pass(1);
        s.due(x, x.riddle(1, 3), 1);
    }

    private void riddleHas(Trade x, int riddle, int asker, int price, int seal) {
        s.due(x, x.riddle(riddle, 0), asker);
        s.due(x, x.riddle(riddle, 1), price);
        s.due(x, x.riddle(riddle, 2), seal);
    }

    private void answers() {
        s.sentence(ANSWERS, "At most 40 answers are delivered ever, numbered from 0");
        Trade x = new Trade();
        Made.riddles(x, 1);
        for (int answer = 0; answer < 40; answer++) {
            s.due(x, x.deliver(6, 0, 1, 1), answer);
        }
        s.refused(x, x.deliver(6, 0, 1, 1), FULL);
        // Three are refused a round, so 14 rounds empty the row.
        s.due(x, x.pass(14), 0);
        s.due(x, x.count(4), 0);
        s.refused(x, x.deliver(6, 0, 0, 1), FULL);
        x.undo();
        x.undo();
        s.due(x, x.deliver(5, 0, 2, 3), 39);
        s.due(x, x.answer(39, 0), 5);
        s.refused(x, x.deliver(6, 0, 0, 1), FULL);
    }

    private void whatAnAnswerHas() {
        s.sentence(ANSWERS, "each has a giver, a riddle, a seal (0 to 99), a weight (1 to 99), and waits in the row, "
            + "is paid, or is refused.");
        Trade x = new Trade();
        x.ask(7, 1, 0);
        x.ask(0, 1, 98);
        s.refused(x, x.deliver(1, 0, -1, 1), BAD_VALUE);
        s.refused(x, x.deliver(1, 0, 100, 1), BAD_VALUE);
        s.refused(x, x.deliver(1, 0, 0, 0), BAD_VALUE);
        s.refused(x, x.deliver(1, 0, 0, 100), BAD_VALUE);
        answerHas(x, x.deliver(0, 0, 0, 1), 0, 0, 0, 1);
        answerHas(x, x.deliver(7, 1, 99, 99), 7, 1, 99, 99);
        s.due(x, x.answer(0, 4), 0);
        s.due(x, x.answer(1, 4), 0);
        s.due(x, x.pass(1), 1);
        s.due(x, x.answer(0, 4), 1);
        s.due(x, x.answer(1, 4), 2);
    }

    private void answerHas(Trade x, int answer, int giver, int riddle, int seal, int weight) {
        s.due(x, x.answer(answer, 0), giver);
        s.due(x, x.answer(answer, 1), riddle);
        s.due(x, x.answer(answer, 2), seal);
        s.due(x, x.answer(answer, 3), weight);
    }

    private void whoCannotAnswer() {
        s.sentence(ANSWERS, "Who asked a riddle cannot answer it.");
        Trade x = new Trade();
        for (int asker = 0; asker < 8; asker++) {
            int riddle = x.ask(asker, 1, 0);
            s.refused(x, x.deliver(asker, riddle, 0, 1), NOT_POSSIBLE);
            s.due(x, x.deliver((asker + 1) % 8, riddle, 0, 1), asker);
        }
        s.stops(x, "r4:1=0;a3:8=0*1;a4:8=0*1", 2, NOT_POSSIBLE);
    }

    private void endOfTheRow() {
        s.sentence(ANSWERS, "An answer that is delivered goes to the end of the row.");
        Trade x = Made.poor();
        x.ask(0, 50, 0);
        x.ask(0, 50, 0);
        x.deliver(2, 1, 0, 1);
        s.due(x, x.answer(1, 8), 0);
        x.deliver(3, 2, 0, 1);
        s.due(x, x.answer(2, 8), 1);
        // The first one cannot be paid and goes behind the second one; a new one goes behind both.
        s.due(x, x.pass(1), 0);
        x.deliver(4, 1, 0, 1);
        s.due(x, x.waits(0), 2);
        s.due(x, x.waits(1), 1);
        s.due(x, x.waits(2), 3);
        s.told(x, x.waits(3), NONE);
        s.due(x, x.answer(3, 8), 2);
    }

    private void scales() {
        s.sentence(SCALES, "There are two scales, 0 and 1, with drifts (0 at first).");
        Trade x = new Trade();
        s.due(x, x.count(12), 9);
        s.due(x, x.count(13), 9);
        s.told(x, x.weigh(0, 50), 50);
        s.told(x, x.weigh(1, 50), 50);
        s.refused(x, x.weigh(-1, 50), UNKNOWN);
        s.refused(x, x.weigh(2, 50), UNKNOWN);
    }

    private void weighing() {
        s.sentence(SCALES, "A weighing tells the weight and the drift, together, but 0 at least.");
        Trade x = new Trade();
        x.set(0, 9);
        Made.weighings(x, 4);
        s.told(x, x.weigh(0, 1), 5);
        s.told(x, x.weigh(0, 99), 103);
        s.told(x, x.weigh(1, 99), 95);
        s.told(x, x.weigh(1, 5), 1);
        s.told(x, x.weigh(1, 4), 0);
        s.told(x, x.weigh(1, 3), 0);
        s.told(x, x.weigh(1, 1), 0);
        Made.weighings(x, 1);
        s.told(x, x.weigh(0, 5), 1);
        s.told(x, x.weigh(0, 4), 0);
        s.told(x, x.weigh(0, 1), 0);
        s.told(x, x.weigh(1, 1), 5);
        // In a round too: 0 and 7 differ by 7, while -1 and 7 would differ by 8.
        Made.riddles(x, 1);
        x.deliver(6, 5, 0, 3);
        x.set(0, 6);
        s.told(x, x.reason(5), 3);
        x.set(0, 7);
        s.told(x, x.reason(5), 0);
        s.due(x, x.pass(1), 1);
    }

    private void drift() {
        s.sentence(SCALES, "Behind a weighing the drift of the scale 0 is 1 more, that of the scale 1 is 1 less");
        Trade x = new Trade();
        x.set(0, 9);
        for (int weighings = 1; weighings <= 4; weighings++) {
            Made.weighings(x, 1);
            drifts(x, weighings);
        }
    }

    private void drifts(Trade x, int first) {
        s.due(x, x.count(12), 9 + first);
        s.due(x, x.count(13), 9 - first);
    }

    private void driftTurns() {
        s.sentence(SCALES, "; but if it would be beyond the setting 1, without its sign (0 to 9; 4 at first), "
            + "it comes to the setting 1 with the sign other than it would have.");
        Trade first = new Trade();
        first.set(0, 9);
        int[] drifts = {1, 2, 3, 4, -4, -3, -2, -1, 0, 1};
        for (int drift : drifts) {
            Made.weighings(first, 1);
            drifts(first, drift);
        }
        for (int most = 0; most <= 8; most++) {
            Trade x = withDrift(most, most);
            drifts(x, most);
            Made.weighings(x, 1);
            drifts(x, -most);
            Made.weighings(x, 1);
            drifts(x, most == 0 ? 0 : 1 - most);
        }
        // With the drift 9 the numbers are 10 and 0: the answer is doubted, but was weighed.
        Trade x = withDrift(9, 9);
        drifts(x, 9);
        Made.weighings(x, 1);
        drifts(x, -9);
        s.due(x, x.answer(9, 6), 1);
        s.due(x, x.pass(1), 0);
        drifts(x, -8);
        s.due(x, x.answer(9, 6), 2);
        s.due(x, x.pass(1), 1);
        drifts(x, -7);
    }

    private void driftTurnsAtALowerSetting() {
        s.sentence(SCALES, "beyond the setting 1, without its sign");
        // From 4 it would be 5, from -4 it would be -3: the first is positive, the second is negative.
        lowered(4, 2, -2);
        lowered(5, 2, 2);
        lowered(5, 3, -3);
        lowered(5, 0, 0);
        lowered(4, 0, 0);
        lowered(4, 5, 5);
        lowered(6, 1, 1);
        lowered(8, 0, 0);
    }

    /** With the setting 1 as it is at first, so many weighings; then it is another one, and one weighing more. */
    private void lowered(int weighings, int setting, int drift) {
        Trade x = withDrift(4, weighings);
        x.set(1, setting);
        Made.weighings(x, 1);
        drifts(x, drift);
    }

    private static Trade withDrift(int mostDrift, int weighings) {
        Trade x = new Trade();
        x.set(0, 9);
        x.set(1, mostDrift);
        Made.weighings(x, weighings);
        return x;
    }

    private void constants() {
        s.sentence(ERRORS, "Errors are reported by the constants below.");
        s.sentence(ERRORS, "The constants: `UNKNOWN = -1`: There is no such trader, riddle, answer or setting.");
        s.dueConstant("UNKNOWN", UNKNOWN, -1);
        Trade x = new Trade();
        s.refused(x, x.trader(8, 0), -1);
        s.refused(x, x.riddle(0, 0), -1);
        s.refused(x, x.answer(0, 0), -1);
        s.refused(x, x.set(4, 0), -1);
        s.sentence(ERRORS, "`BAD_VALUE = -2`: Another argument is out of range.");
        s.dueConstant("BAD_VALUE", BAD_VALUE, -2);
        s.refused(x, x.trader(0, 8), -2);
        s.sentence(ERRORS, "`FULL = -3`: There is no more room.");
        s.dueConstant("FULL", FULL, -3);
        Made.riddles(x, 20);
        s.refused(x, x.ask(0, 1, 0), -3);
        s.sentence(ERRORS, "`NOT_POSSIBLE = -4`: This is not possible.");
        s.dueConstant("NOT_POSSIBLE", NOT_POSSIBLE, -4);
        s.refused(x, x.deliver(7, 0, 0, 1), -4);
        s.sentence(ERRORS, "`NONE = -5`: There is no such thing; not an error.");
        s.dueConstant("NONE", NONE, -5);
        s.told(x, x.waits(0), -5);
    }

    private void orderOfErrors() {
        s.sentence(ERRORS, "Where several errors can apply, the order of the @return line is the order of the checks.");
        Trade x = new Trade();
        Made.riddles(x, 20);
        Made.wrongAnswers(x, 40);
        s.refused(x, x.ask(-1, 51, -1), UNKNOWN);
        s.refused(x, x.ask(7, 51, 99), BAD_VALUE);
        s.refused(x, x.ask(7, 50, 99), FULL);
        s.refused(x, x.deliver(8, 20, 100, 0), UNKNOWN);
        s.refused(x, x.deliver(7, 20, 100, 0), UNKNOWN);
        s.refused(x, x.deliver(7, 0, 100, 0), BAD_VALUE);
        s.refused(x, x.deliver(7, 0, 99, 1), NOT_POSSIBLE);
        s.refused(x, x.deliver(6, 0, 99, 1), FULL);
        s.refused(x, x.set(-1, -1), UNKNOWN);
        s.refused(x, x.trader(-1, -1), UNKNOWN);
        s.refused(x, x.riddle(-1, -1), UNKNOWN);
        s.refused(x, x.answer(-1, -1), UNKNOWN);
        s.refused(x, x.weigh(-1, -1), UNKNOWN);
        Trade late = Made.roundsLeft(0);
        s.refused(late, late.pass(100), BAD_VALUE);
        s.refused(late, late.pass(99), FULL);
    }

    private void noneIsNoError() {
        s.sentence(ERRORS, "NONE is no error; it is returned only if no error applies.");
        Trade x = new Trade();
        s.refused(x, x.waits(-1), BAD_VALUE);
        s.told(x, x.waits(0), NONE);
        s.refused(x, x.stopped(2), BAD_VALUE);
        s.told(x, x.stopped(1), NONE);
        s.refused(x, x.answer(0, 8), UNKNOWN);
        s.refused(x, x.riddle(0, 6), UNKNOWN);
        s.refused(x, x.settledIn(0), UNKNOWN);
        Made.riddles(x, 1);
        Made.wrongAnswers(x, 1);
        x.pass(1);
        s.refused(x, x.settledIn(0), NOT_POSSIBLE);
        s.told(x, x.answer(0, 8), NONE);
        s.told(x, x.riddle(0, 6), NONE);
    }

    private void errorsChangeNothing() {
        s.sentence(ERRORS, "A call that returns an error or NONE changes nothing "
            + "(but for the latest stop of perform()).");
        Trade x = new Trade();
        x.ask(1, 9, 1);
        x.deliver(2, 0, 1, 50);
        x.keep();
        x.pass(1);
        x.undo();
        s.stops(x, "r2:5=5;.9;a1:1=5*5;a1:0=1*1", 3, NOT_POSSIBLE);
        // What was tried is in nothing that is done then.
        s.due(x, x.ask(3, 4, 5), 1);
        s.due(x, x.riddle(1, 0), 3);
        s.due(x, x.count(0), 0);
        s.due(x, x.pass(1), 1);
        s.due(x, x.restore(), 1);
        s.due(x, x.count(1), 1);
        s.told(x, x.set(0, 2), NONE);
        s.told(x, x.adjust(), NONE);
        s.refused(x, x.perform(), NOT_POSSIBLE);
        Trade empty = new Trade();
        s.told(empty, empty.undo(), NONE);
        s.told(empty, empty.restore(), NONE);
    }
}
