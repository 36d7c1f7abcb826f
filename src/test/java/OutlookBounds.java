/** The boundary cases of the promises 20 to 22: reason, settledIn, ifRounds. */
final class OutlookBounds {
    private static final int UNKNOWN = RiddleTrade.UNKNOWN;
    private static final int BAD_VALUE = RiddleTrade.BAD_VALUE;
    private static final int NOT_POSSIBLE = RiddleTrade.NOT_POSSIBLE;
    private static final int NONE = RiddleTrade.NONE;
    private static final int LEAST = Integer.MIN_VALUE;
    private static final int MOST = Integer.MAX_VALUE;

    private final Sentences s;

    OutlookBounds(Sentences sentences) {
        s = sentences;
    }

    void all() {
        reasonRange();
        reasonNow();
        reasonTells();
        reasonErrors();
        settledInRange();
        settledInRow();
        settledInOneOrMore();
        settledInErrors();
        settledInThreeHundred();
        settledInNever();
        ifRoundsRange();
        ifRoundsAdjusted();
        ifRoundsTells();
        outlooksAtTheLastRound();
    }

    private void reasonRange() {
        s.sentence("Promise 20", "`answer`: an answer");
        Trade x = new Trade();
        s.refused(x, x.reason(0), UNKNOWN);
        Made.riddles(x, 1);
        Made.wrongAnswers(x, 40);
        s.told(x, x.reason(0), 2);
        s.told(x, x.reason(39), 2);
    }

    private void reasonNow() {
        s.sentence("Promise 20", "Tells why an answer that waits would not be paid, "
            + "if it was the next one that is taken.");
        Trade x = new Trade();
        Made.riddles(x, 1);
        x.deliver(6, 0, 0, 1);
        x.deliver(6, 0, 0, 1);
        // Behind the answer 0 the riddle will be paid, but as the next one the answer 1 would be paid itself.
        s.told(x, x.reason(1), 0);
        x.pass(1);
        Trade drifting = new Trade();
        drifting.set(0, 1);
        Made.riddles(drifting, 2);
        drifting.deliver(6, 0, 0, 1);
        drifting.deliver(6, 1, 0, 1);
        s.told(drifting, drifting.reason(1), 0);
        s.due(drifting, drifting.pass(1), 1);
        s.told(drifting, drifting.reason(1), 3);
    }

    private void reasonTells() {
        s.sentence("Promise 20", "Returns 0 if it would; 1 or 2 if it would be refused for that reason, "
            + "3 if it would be doubted (or refused by that), 4 if the asker cannot pay");
        // A withdrawn riddle, a wrong seal, too great a difference and a poor asker; one after the other goes.
        Trade x = Made.poor();
        x.ask(0, 50, 0);
        x.deliver(2, 1, 1, 99);
        x.deliver(2, 1, 0, 99);
        x.set(0, 1);
        x.withdraw(1);
        s.told(x, x.reason(1), 1);
        s.told(x, x.reason(2), 1);
        x.undo();
        s.told(x, x.reason(1), 2);
        s.told(x, x.reason(2), 3);
        x.set(0, 2);
        s.told(x, x.reason(2), 4);
        // It costs 69; of 31 coins that leaves -38.
        x.set(3, 37);
        s.told(x, x.reason(2), 4);
        x.set(3, 38);
        s.told(x, x.reason(2), 0);
        s.told(x, x.reason(1), 2);
        // The third doubt would refuse it: this is told as 3 too.
        x.set(0, 0);
        x.withdraw(0);
        s.due(x, x.pass(1), 0);
        for (int doubts = 0; doubts < 3; doubts++) {
            s.told(x, x.reason(2), 3);
            s.due(x, x.answer(2, 6), doubts);
            s.due(x, x.pass(1), 0);
        }
        s.due(x, x.answer(2, 5), 3);
    }

    private void reasonErrors() {
        s.sentence("Promise 20", "UNKNOWN; NOT_POSSIBLE if it does not wait.");
        Trade x = new Trade();
        Made.riddles(x, 2);
        x.deliver(6, 0, 0, 1);
        x.deliver(6, 0, 0, 1);
        x.deliver(6, 1, 1, 1);
        x.pass(1);
        for (int answer = 0; answer < 3; answer++) {
            s.refused(x, x.reason(answer), NOT_POSSIBLE);
        }
        for (int answer : new int[] {-1, 3, 40, LEAST, MOST}) {
            s.refused(x, x.reason(answer), UNKNOWN);
        }
    }

    private void settledInRange() {
        s.sentence("Promise 21", "`answer`: an answer");
        Trade x = new Trade();
        s.refused(x, x.settledIn(0), UNKNOWN);
        Made.riddles(x, 1);
        Made.wrongAnswers(x, 40);
        s.told(x, x.settledIn(0), 1);
        s.told(x, x.settledIn(39), 14);
    }

    private void settledInRow() {
        s.sentence("Promise 21", "Tells in how many rounds an answer is paid or refused, if nothing else is done.");
        Trade x = new Trade();
        x.set(2, 1);
        Made.riddles(x, 2);
        x.deliver(6, 0, 0, 1);
        x.deliver(6, 0, 0, 1);
        x.deliver(6, 1, 1, 1);
        // Paid; refused as the riddle is paid then; refused for its seal.
        for (int answer = 0; answer < 3; answer++) {
            s.told(x, x.settledIn(answer), answer + 1);
        }
        x.set(2, 2);
        s.told(x, x.settledIn(1), 1);
        s.told(x, x.settledIn(2), 2);
        Trade y = new Trade();
        y.set(2, 9);
        Made.riddles(y, 1);
        Made.wrongAnswers(y, 40);
        int[] answers = {0, 8, 9, 17, 18, 26, 27, 35, 36, 39};
        for (int answer : answers) {
            s.told(y, y.settledIn(answer), 1 + answer / 9);
        }
    }

    private void settledInOneOrMore() {
        s.sentence("Promise 21", "Returns how many, 1 or more");
        Trade x = new Trade();
        Made.riddles(x, 1);
        x.deliver(6, 0, 0, 1);
        s.told(x, x.settledIn(0), 1);
        // Three doubts take three rounds, as the drifts are 1, 2 and 3.
        Trade doubted = new Trade();
        Made.weighings(doubted, 1);
        doubted.set(0, 0);
        Made.riddles(doubted, 1);
        doubted.deliver(6, 1, 0, 1);
        for (int left = 3; left >= 1; left--) {
            s.told(doubted, doubted.settledIn(1), left);
            s.due(doubted, doubted.pass(1), 0);
        }
        s.refused(doubted, doubted.settledIn(1), NOT_POSSIBLE);
    }

    private void settledInErrors() {
        s.sentence("Promise 21", "UNKNOWN; NOT_POSSIBLE if it does not wait");
        Trade x = new Trade();
        Made.riddles(x, 2);
        x.deliver(6, 0, 0, 1);
        x.deliver(6, 0, 0, 1);
        x.deliver(6, 1, 1, 1);
        x.pass(1);
        for (int answer = 0; answer < 3; answer++) {
            s.refused(x, x.settledIn(answer), NOT_POSSIBLE);
        }
        for (int answer : new int[] {-1, 3, 40, LEAST, MOST}) {
            s.refused(x, x.settledIn(answer), UNKNOWN);
        }
    }

    /**
     * 34 answers that cannot be paid take turns, one a round. With the weight 4 both scales tell numbers that differ
     * by 9 at most, so just the answer 5 with the weight 99 is ever doubted: when the drift is 5 or -5. In the round
     * r from now the drift is 1, 2, 3, 4, 5, -5, -4, .., 0, 1, .., in turns of 11; it is 5 in the rounds 5, 16, ..,
     * and -5 in the rounds 6, 17, .. The answer 5 is weighed in the rounds 5, 39, 73, .., which are 5, 6, 7, .. of
     * such a turn; so it is doubted in the rounds 5, 39 and 5 + 11 * 34 = 379.
     */
    private Trade settledIn379() {
        Trade x = Made.poor();
        x.set(1, 5);
        x.ask(0, 50, 0);
        for (int answer = 1; answer <= 34; answer++) {
            x.deliver(2, 1, 0, answer == 5 ? 99 : 4);
        }
        s.due(x, x.count(12), 10);
        return x;
    }

    private void settledInThreeHundred() {
        s.sentence("Promise 21", "NONE if that is not within 300.");
        Trade x = settledIn379();
        s.told(x, x.settledIn(5), NONE);
        x.pass(78);
        s.told(x, x.settledIn(5), NONE);
        x.pass(1);
        s.told(x, x.settledIn(5), 300);
        x.pass(1);
        s.told(x, x.settledIn(5), 299);
        x.pass(99);
        x.pass(99);
        x.pass(99);
        s.told(x, x.settledIn(5), 2);
        x.pass(1);
        s.told(x, x.settledIn(5), 1);
        s.due(x, x.answer(5, 6), 2);
        s.due(x, x.pass(1), 0);
        s.due(x, x.answer(5, 5), 3);
        s.due(x, x.count(0), 1 + 379);
        s.refused(x, x.settledIn(5), NOT_POSSIBLE);
    }

    private void settledInNever() {
        s.sentence("Promise 21", "NONE if");
        Trade x = Made.poor();
        x.ask(0, 50, 0);
        x.deliver(2, 1, 0, 1);
        s.told(x, x.settledIn(1), NONE);
        x.withdraw(1);
        s.told(x, x.settledIn(1), 1);
    }

    private void ifRoundsRange() {
        s.sentence("Promise 22", "`rounds`: 1 to 99");
        Trade x = paidIn99();
        s.told(x, x.ifRounds(1, false), 0);
        s.told(x, x.ifRounds(98, false), 0);
        s.told(x, x.ifRounds(99, false), 1);
        s.told(x, x.settledIn(31), 99);
        s.due(x, x.pass(98), 0);
        s.told(x, x.ifRounds(1, false), 1);
        s.due(x, x.pass(1), 1);
    }

    /**
     * 34 answers take turns, one a round; just the answer 31 can be paid. The others have the weight 4 and are never
     * doubted. The drift is -3 now, so in the rounds 9, 20, .. it is 5 and in the rounds 10, 21, .. it is -5: the
     * answer 31 is weighed in the rounds 31 and 65, which are such ones, and 99, which is not.
     */
    private Trade paidIn99() {
        Trade x = Made.poor();
        x.set(1, 5);
        x.ask(0, 50, 0);
        x.ask(3, 1, 0);
        x.deliver(2, 1, 0, 4);
        s.due(x, x.pass(7), 0);
        s.due(x, x.count(12), 9 - 3);
        for (int answer = 2; answer <= 34; answer++) {
            x.deliver(2, answer == 31 ? 2 : 1, 0, answer == 31 ? 99 : 4);
        }
        return x;
    }

    private void ifRoundsAdjusted() {
        s.sentence("Promise 22", "`adjusted`: whether both scales were set right ahead of them");
        Trade x = paidIn99();
        // With the drift 0 at first it is 5 in the rounds 6, 17, 28, and -5 in the next ones, so not in 31.
        s.told(x, x.ifRounds(30, true), 0);
        s.told(x, x.ifRounds(31, true), 1);
        s.told(x, x.ifRounds(31, false), 0);
        s.told(x, x.ifRounds(99, true), 1);
        s.due(x, x.count(12), 9 - 3);
        x.adjust();
        // Nothing is to be set right then, which is no error here.
        s.told(x, x.ifRounds(31, true), 1);
        s.told(x, x.ifRounds(31, false), 1);
        s.due(x, x.pass(31), 1);
    }

    private void ifRoundsTells() {
        s.sentence("Promise 22", "Tells how many answers would be paid in rounds, if nothing else is done.");
        Trade x = new Trade();
        x.set(0, 9);
        s.told(x, x.ifRounds(99, false), 0);
        Made.riddles(x, 20);
        for (int riddle = 0; riddle < 20; riddle++) {
            x.deliver(6, riddle, 0, 1);
        }
        s.told(x, x.ifRounds(1, false), 3);
        s.told(x, x.ifRounds(6, false), 18);
        s.told(x, x.ifRounds(7, false), 20);
        s.told(x, x.ifRounds(99, true), 20);
        s.due(x, x.pass(7), 20);
        s.sentence("Promise 22", "Returns how many; BAD_VALUE.");
        for (int rounds : new int[] {-1, 0, 100, LEAST, MOST}) {
            s.refused(x, x.ifRounds(rounds, false), BAD_VALUE);
            s.refused(x, x.ifRounds(rounds, true), BAD_VALUE);
        }
    }

    /** The document gives neither a FULL: they reckon on, as if rounds could pass. */
    private void outlooksAtTheLastRound() {
        s.sentence("Promise 22", "Returns how many");
        Trade x = Made.roundsLeft(0);
        Made.riddles(x, 1);
        x.deliver(6, 0, 0, 1);
        s.refused(x, x.pass(1), RiddleTrade.FULL);
        s.told(x, x.ifRounds(99, false), 1);
        s.told(x, x.settledIn(0), 1);
    }
}
