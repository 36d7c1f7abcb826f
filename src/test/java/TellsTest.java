/** Promises 15 to 25: trader, riddle, answer, waits, weigh, reason, settledIn, ifRounds, richest, account, count. */
public final class TellsTest {
    private static final int UNKNOWN = RiddleTrade.UNKNOWN;
    private static final int BAD_VALUE = RiddleTrade.BAD_VALUE;
    private static final int NOT_POSSIBLE = RiddleTrade.NOT_POSSIBLE;
    private static final int NONE = RiddleTrade.NONE;
    private static final Due CHECK = new Due();

    public static void main(String[] args) {
        story();
        traderChecks();
        riddleChecks();
        answerChecks();
        waits();
        weigh();
        reasonInOrder();
        reasonChecks();
        settledInRounds();
        settledInOverTheRow();
        settledInBounds();
        settledInLimit();
        ifRounds();
        ifRoundsChecks();
        outlooksKnowNoLastRound();
        richest();
        account();
        count();
        askingChangesNothing();
        CHECK.end();
    }

    /** Two rounds with a payment, one of each refusal, a doubt and a debt. */
    private static RiddleTrade twoRounds() {
        RiddleTrade x = new RiddleTrade();
        x.set(3, 100);
        x.ask(0, 50, 1);
        x.ask(0, 50, 2);
        x.ask(0, 50, 3);
        x.ask(2, 4, 4);
        x.deliver(1, 0, 1, 99);
        x.deliver(2, 0, 1, 50);
        x.deliver(3, 1, 9, 50);
        x.deliver(1, 1, 2, 99);
        x.deliver(4, 2, 3, 60);
        x.deliver(4, 3, 4, 30);
        x.deliver(5, 2, 3, 40);
        // Payment 69; refused by 1; refused by 2. The drifts are 1 and -1 then.
        CHECK.due("first round", x.pass(1), 1);
        // Payment 50 + 19, a debt of 38 and a fee of 1; then 4 and -2 differ by more than 2.
        CHECK.due("second round", x.pass(1), 1);
        return x;
    }

    private static void story() {
        RiddleTrade x = twoRounds();
        CHECK.dueRow("trader 0", Told.trader(x, 0), 39, 0, 3, 2, 0, 0, 0, 1);
        CHECK.dueRow("trader 1", Told.trader(x, 1), 0, 238, 0, 0, 2, 2, 0, 0);
        CHECK.dueRow("trader 2", Told.trader(x, 2), 0, 100, 1, 0, 1, 0, 1, 0);
        CHECK.dueRow("trader 3", Told.trader(x, 3), 0, 100, 0, 0, 1, 0, 1, 0);
        CHECK.dueRow("trader 4", Told.trader(x, 4), 0, 100, 0, 0, 2, 0, 0, 0);
        CHECK.dueRow("riddle 0", Told.riddle(x, 0), 0, 50, 1, 1, 2, 0, 0);
        CHECK.dueRow("riddle 1", Told.riddle(x, 1), 0, 50, 2, 1, 2, 0, 3);
        CHECK.dueRow("riddle 2", Told.riddle(x, 2), 0, 50, 3, 0, 2, 2, NONE);
        CHECK.dueRow("riddle 3", Told.riddle(x, 3), 2, 4, 4, 0, 1, 1, NONE);
        CHECK.dueRow("answer 0", Told.answer(x, 0), 1, 0, 1, 99, 1, 0, 0, 69, NONE);
        CHECK.dueRow("answer 1", Told.answer(x, 1), 2, 0, 1, 50, 2, 1, 0, 0, NONE);
        CHECK.dueRow("answer 2", Told.answer(x, 2), 3, 1, 9, 50, 2, 2, 0, 0, NONE);
        CHECK.dueRow("answer 3", Told.answer(x, 3), 1, 1, 2, 99, 1, 0, 0, 69, NONE);
        CHECK.dueRow("answer 4", Told.answer(x, 4), 4, 2, 3, 60, 0, 0, 1, 0, 1);
        CHECK.dueRow("answer 5", Told.answer(x, 5), 4, 3, 4, 30, 0, 0, 1, 0, 2);
        CHECK.dueRow("answer 6", Told.answer(x, 6), 5, 2, 3, 40, 0, 0, 0, 0, 0);
        CHECK.dueRow("count", Told.counts(x),
            2, 4, 2, 7, 3, 2, 2, 2, 8, 1, 1, 138, 13, 5, 2, 4, 3, 100, 4, 0);
        CHECK.due("account(0)", x.account(0), 99961);
        CHECK.due("account(1)", x.account(1), 100238);
        CHECK.due("richest()", x.richest(), 1);
        CHECK.due("waits(0)", x.waits(0), 6);
        CHECK.due("waits(1)", x.waits(1), 4);
        CHECK.due("waits(2)", x.waits(2), 5);
    }

    private static void traderChecks() {
        RiddleTrade x = new RiddleTrade();
        CHECK.due("trader(-1, 0)", x.trader(-1, 0), UNKNOWN);
        CHECK.due("trader(8, 9)", x.trader(8, 9), UNKNOWN);
        CHECK.due("trader(0, -1)", x.trader(0, -1), BAD_VALUE);
        CHECK.due("trader(7, 8)", x.trader(7, 8), BAD_VALUE);
    }

    private static void riddleChecks() {
        RiddleTrade x = new RiddleTrade();
        CHECK.due("riddle(0, 7)", x.riddle(0, 7), UNKNOWN);
        x.ask(1, 2, 3);
        CHECK.due("riddle(-1, 0)", x.riddle(-1, 0), UNKNOWN);
        CHECK.due("riddle(1, 0)", x.riddle(1, 0), UNKNOWN);
        CHECK.due("riddle(0, -1)", x.riddle(0, -1), BAD_VALUE);
        CHECK.due("riddle(0, 7) of one that is there", x.riddle(0, 7), BAD_VALUE);
        x.undo();
        CHECK.due("riddle(0, 0) behind undo()", x.riddle(0, 0), UNKNOWN);
    }

    private static void answerChecks() {
        RiddleTrade x = new RiddleTrade();
        CHECK.due("answer(0, 9)", x.answer(0, 9), UNKNOWN);
        x.ask(1, 2, 3);
        x.deliver(2, 0, 3, 4);
        CHECK.due("answer(-1, 0)", x.answer(-1, 0), UNKNOWN);
        CHECK.due("answer(1, 0)", x.answer(1, 0), UNKNOWN);
        CHECK.due("answer(0, -1)", x.answer(0, -1), BAD_VALUE);
        CHECK.due("answer(0, 9) of one that is there", x.answer(0, 9), BAD_VALUE);
    }

    private static void waits() {
        RiddleTrade x = new RiddleTrade();
        x.set(2, 9);
        x.ask(0, 1, 1);
        // The row goes on in order for more answers than it has places beyond its first ones.
        for (int answer = 0; answer < 40; answer++) {
            x.deliver(1, 0, 2, 1);
            if (answer == 29) {
                x.pass(3);
            }
        }
        CHECK.due("count(4)", x.count(4), 13);
        for (int rank = 0; rank < 13; rank++) {
            CHECK.due("waits", x.waits(rank), 27 + rank);
            CHECK.due("answer(.., 8)", x.answer(27 + rank, 8), rank);
        }
        CHECK.due("answer(26, 8)", x.answer(26, 8), NONE);
        CHECK.due("waits(13)", x.waits(13), NONE);
        CHECK.due("waits(40)", x.waits(40), NONE);
        CHECK.due("waits(most)", x.waits(Integer.MAX_VALUE), NONE);
        CHECK.due("waits(-1)", x.waits(-1), BAD_VALUE);
        CHECK.due("waits(least)", x.waits(Integer.MIN_VALUE), BAD_VALUE);
    }

    private static void weigh() {
        RiddleTrade x = twoRounds();
        CHECK.due("weigh(0, 1)", x.weigh(0, 1), 5);
        CHECK.due("weigh(0, 99)", x.weigh(0, 99), 103);
        CHECK.due("weigh(1, 1)", x.weigh(1, 1), 0);
        CHECK.due("weigh(1, 4)", x.weigh(1, 4), 0);
        CHECK.due("weigh(1, 5)", x.weigh(1, 5), 1);
        CHECK.due("weigh(2, 0)", x.weigh(2, 0), UNKNOWN);
        CHECK.due("weigh(-1, 1)", x.weigh(-1, 1), UNKNOWN);
        CHECK.due("weigh(0, 0)", x.weigh(0, 0), BAD_VALUE);
        CHECK.due("weigh(1, 100)", x.weigh(1, 100), BAD_VALUE);
        CHECK.due("it was no weighing", x.count(8), 8);
        CHECK.due("it left the drift", x.count(12), 13);
    }

    /** One answer that all four reasons meet; one after the other is taken away. */
    private static void reasonInOrder() {
        RiddleTrade x = new RiddleTrade();
        x.set(1, 9);
        x.set(3, 0);
        x.ask(0, 50, 1);
        x.ask(0, 50, 1);
        x.ask(0, 50, 1);
        x.deliver(1, 0, 1, 99);
        x.deliver(2, 2, 1, 99);
        x.pass(1);
        x.set(0, 1);
        // Paid 69; the other one was weighed, but could not be paid.
        CHECK.due("count(8)", x.count(8), 4);
        x.deliver(3, 1, 2, 99);
        x.deliver(3, 1, 1, 99);
        x.withdraw(1);
        CHECK.due("reason of a withdrawn one", x.reason(2), 1);
        x.undo();
        CHECK.due("reason of a wrong seal", x.reason(2), 2);
        CHECK.due("reason of a doubt", x.reason(3), 3);
        x.set(0, 4);
        CHECK.due("reason of poverty", x.reason(3), 4);
        x.set(3, 500);
        CHECK.due("no reason", x.reason(3), 0);
        // The place in the row is of no account.
        CHECK.due("no reason behind others", x.answer(3, 8), 2);
    }

    private static void reasonChecks() {
        RiddleTrade x = twoRounds();
        CHECK.due("reason(-1)", x.reason(-1), UNKNOWN);
        CHECK.due("reason(7)", x.reason(7), UNKNOWN);
        CHECK.due("reason(0), paid", x.reason(0), NOT_POSSIBLE);
        CHECK.due("reason(1), refused", x.reason(1), NOT_POSSIBLE);
        CHECK.due("reason(4)", x.reason(4), 3);
        CHECK.due("settledIn(-1)", x.settledIn(-1), UNKNOWN);
        CHECK.due("settledIn(7)", x.settledIn(7), UNKNOWN);
        CHECK.due("settledIn(0), paid", x.settledIn(0), NOT_POSSIBLE);
        CHECK.due("settledIn(2), refused", x.settledIn(2), NOT_POSSIBLE);
    }

    private static void settledInRounds() {
        RiddleTrade x = twoRounds();
        int answers = x.count(3);
        for (int answer = 4; answer < answers; answer++) {
            settlesAsTold(twoRounds(), answer);
        }
    }

    /** Lets the rounds pass, one by one, and looks when the answer waits no more. */
    private static void settlesAsTold(RiddleTrade x, int answer) {
        int told = x.settledIn(answer);
        CHECK.due("settledIn is 1 or more", told >= 1 ? 1 : 0, 1);
        for (int rounds = 1; rounds <= told; rounds++) {
            CHECK.due("settledIn goes down", x.settledIn(answer), told + 1 - rounds);
            CHECK.due("it waits", x.answer(answer, 4), 0);
            x.pass(1);
        }
        CHECK.due("it waits no more", x.answer(answer, 4) == 0 ? 1 : 0, 0);
        CHECK.due("settledIn then", x.settledIn(answer), NOT_POSSIBLE);
    }

    private static void settledInOverTheRow() {
        RiddleTrade x = new RiddleTrade();
        x.set(2, 1);
        x.ask(0, 1, 1);
        for (int answer = 0; answer < 40; answer++) {
            x.deliver(1, 0, 2, 1);
        }
        for (int answer = 0; answer < 40; answer++) {
            CHECK.due("settledIn in the row", x.settledIn(answer), answer + 1);
        }
        x.set(2, 9);
        CHECK.due("settledIn(8)", x.settledIn(8), 1);
        CHECK.due("settledIn(9)", x.settledIn(9), 2);
        CHECK.due("settledIn(39)", x.settledIn(39), 5);
    }

    /** An asker who stays poor keeps an answer waiting for ever. */
    private static void settledInBounds() {
        RiddleTrade x = new RiddleTrade();
        x.set(3, 0);
        x.set(0, 9);
        x.ask(0, 50, 1);
        x.ask(0, 50, 1);
        x.deliver(1, 0, 1, 99);
        x.deliver(1, 1, 1, 99);
        x.pass(1);
        CHECK.due("reason(1)", x.reason(1), 4);
        CHECK.due("settledIn(1)", x.settledIn(1), NONE);
        CHECK.due("ifRounds(99, false)", x.ifRounds(99, false), 0);
        x.withdraw(1);
        CHECK.due("settledIn(1), withdrawn", x.settledIn(1), 1);
        // It is doubted when the first drift is 4 or -4: in the rounds 3, 4 and 12 from now, as it is 2.
        x.undo();
        x.set(0, 7);
        CHECK.due("settledIn(1) by doubts", x.settledIn(1), 12);
        settlesAsTold(x, 1);
        CHECK.due("answer(1, 5)", x.answer(1, 5), 3);
    }

    /** Many answers that cannot be paid, taken in turn and seldom doubted: the first one waits long. */
    private static void settledInLimit() {
        int rounds = roundsUntilSettled(manyPoorAnswers(), 1);
        CHECK.due("it waits for more than 300 rounds", rounds > 301 ? 1 : 0, 1);
        CHECK.due("it does not wait for ever", rounds < 2000 ? 1 : 0, 1);
        RiddleTrade x = manyPoorAnswers();
        CHECK.due("settledIn(1) far away", x.settledIn(1), NONE);
        for (int i = 0; i < rounds - 301; i++) {
            x.pass(1);
        }
        CHECK.due("settledIn(1), 301 rounds away", x.settledIn(1), NONE);
        x.pass(1);
        CHECK.due("settledIn(1), 300 rounds away", x.settledIn(1), 300);
        x.pass(1);
        CHECK.due("settledIn(1), 299 rounds away", x.settledIn(1), 299);
        for (int i = 0; i < 298; i++) {
            x.pass(1);
        }
        CHECK.due("it still waits", x.answer(1, 4), 0);
        CHECK.due("settledIn(1) at last", x.settledIn(1), 1);
        x.pass(1);
        CHECK.due("it is refused", x.answer(1, 5), 3);
    }

    private static int roundsUntilSettled(RiddleTrade x, int answer) {
        int rounds = 0;
        while (rounds < 2000 && x.answer(answer, 4) == 0) {
            x.pass(1);
            rounds++;
        }
        return rounds;
    }

    private static RiddleTrade manyPoorAnswers() {
        RiddleTrade x = new RiddleTrade();
        x.set(0, 9);
        x.set(1, 5);
        x.set(2, 1);
        x.set(3, 0);
        x.ask(0, 50, 1);
        x.ask(0, 50, 1);
        x.deliver(1, 0, 1, 99);
        for (int answer = 1; answer < 31; answer++) {
            x.deliver(2, 1, 1, 99);
        }
        CHECK.due("trader 0 gets poor", x.pass(1), 1);
        return x;
    }

    private static void ifRounds() {
        for (int rounds = 1; rounds <= 12; rounds++) {
            RiddleTrade x = twoRounds();
            int told = x.ifRounds(rounds, false);
            CHECK.due("ifRounds(" + rounds + ", false)", told, x.pass(rounds));
            RiddleTrade adjusted = twoRounds();
            told = adjusted.ifRounds(rounds, true);
            adjusted.adjust();
            CHECK.due("ifRounds(" + rounds + ", true)", told, adjusted.pass(rounds));
        }
        // Set right, the scales agree: trader 0 can pay 58 (39 of 100 are owed), and trader 2 can pay 10.
        CHECK.due("ifRounds(1, true)", twoRounds().ifRounds(1, true), 2);
        CHECK.due("ifRounds(1, false)", twoRounds().ifRounds(1, false), 0);
        RiddleTrade x = new RiddleTrade();
        x.ask(0, 1, 1);
        x.deliver(1, 0, 1, 1);
        CHECK.due("ifRounds(1, true) without drifts", x.ifRounds(1, true), 1);
        CHECK.due("ifRounds(99, false) of one", x.ifRounds(99, false), 1);
    }

    private static void ifRoundsChecks() {
        RiddleTrade x = twoRounds();
        CHECK.due("ifRounds(0, true)", x.ifRounds(0, true), BAD_VALUE);
        CHECK.due("ifRounds(-1, false)", x.ifRounds(-1, false), BAD_VALUE);
        CHECK.due("ifRounds(100, false)", x.ifRounds(100, false), BAD_VALUE);
    }

    private static void outlooksKnowNoLastRound() {
        RiddleTrade x = new RiddleTrade();
        for (int i = 0; i < 101; i++) {
            x.pass(99);
        }
        x.ask(0, 1, 1);
        x.deliver(1, 0, 1, 1);
        CHECK.due("pass(1) at 9999", x.pass(1), RiddleTrade.FULL);
        CHECK.due("ifRounds(9, false) at 9999", x.ifRounds(9, false), 1);
        CHECK.due("settledIn(0) at 9999", x.settledIn(0), 1);
    }

    private static void richest() {
        RiddleTrade x = new RiddleTrade();
        CHECK.due("richest() of equals", x.richest(), 0);
        x.ask(0, 9, 1);
        x.deliver(7, 0, 1, 3);
        x.pass(1);
        CHECK.due("richest() of one", x.richest(), 7);
        x.ask(1, 9, 1);
        x.deliver(4, 1, 1, 3);
        x.pass(1);
        CHECK.due("trader(4, 1)", x.trader(4, 1), x.trader(7, 1));
        CHECK.due("richest() of two", x.richest(), 4);
        RiddleTrade owing = new RiddleTrade();
        owing.set(3, 500);
        owing.ask(0, 50, 1);
        owing.deliver(1, 0, 1, 99);
        owing.pass(1);
        owing.ask(0, 50, 1);
        owing.deliver(1, 1, 1, 99);
        owing.pass(1);
        CHECK.due("trader(0, 0)", owing.trader(0, 0), 39);
        CHECK.due("richest() with a debt", owing.richest(), 1);
    }

    private static void account() {
        RiddleTrade x = twoRounds();
        CHECK.due("account(-1)", x.account(-1), UNKNOWN);
        CHECK.due("account(8)", x.account(8), UNKNOWN);
        for (int rounds = 0; rounds < 20; rounds++) {
            int all = x.count(9);
            for (int trader = 0; trader < 8; trader++) {
                int coins = x.trader(trader, 1) - x.trader(trader, 0);
                CHECK.due("account", x.account(trader), 100000 + coins);
                all += coins;
            }
            CHECK.due("all coins", all, 800);
            x.pass(1);
        }
    }

    private static void count() {
        RiddleTrade x = new RiddleTrade();
        CHECK.due("count(-1)", x.count(-1), BAD_VALUE);
        CHECK.due("count(20)", x.count(20), BAD_VALUE);
        for (int which = 0; which < 4; which++) {
            x.set(which, 7);
            CHECK.due("count of a setting", x.count(14 + which), 7);
        }
        CHECK.due("count(18)", x.count(18), 4);
        x.type('a');
        x.type('a');
        CHECK.due("count(19)", x.count(19), 2);
    }

    private static void askingChangesNothing() {
        RiddleTrade x = twoRounds();
        String before = Told.all(x);
        x.settledIn(4);
        x.settledIn(6);
        x.ifRounds(99, true);
        x.ifRounds(99, false);
        x.reason(5);
        x.weigh(0, 50);
        x.waits(1);
        x.richest();
        x.account(0);
        x.count(8);
        CHECK.due("asking changes nothing", Told.all(x).equals(before) ? 1 : 0, 1);
    }
}
