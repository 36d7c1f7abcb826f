/** The boundary cases of a round: how many are taken, refusals, doubts, payments, fees. */
final class RoundBounds {
    private static final String ROUND = "A ROUND";

    private final Sentences s;

    RoundBounds(Sentences sentences) {
        s = sentences;
    }

    void all() {
        firstNumber();
        takenAtFirst();
        taken();
        nobodyIsTakenTwice();
        notOpen();
        notOpenInTheSameRound();
        wrongSeal();
        notWeighed();
        weighedByBoth();
        doubtedAtFirst();
        doubted();
        doubtedOnTheOtherSide();
        threeDoubts();
        payment();
        cannotPay();
        cannotPayForLong();
        paid();
        fees();
        feesOfMany();
        feesComeLast();
        nextNumber();
    }

    private void firstNumber() {
        s.sentence(ROUND, "The number of the round is 0 at first.");
        Trade x = new Trade();
        s.due(x, x.count(0), 0);
    }

    private void takenAtFirst() {
        s.sentence(ROUND, "In a round as many answers as the setting 2 tells (1 to 9; 3 at first), or all, "
            + "if fewer wait, are taken from the head of the row as it is at the beginning of the round, "
            + "one after the other. Each of them:");
        Trade x = new Trade();
        s.due(x, x.count(16), 3);
        for (int waiting = 0; waiting <= 4; waiting++) {
            Trade y = new Trade();
            Made.riddles(y, 1);
            takes(y, waiting, Math.min(waiting, 3));
        }
    }

    /** All have the wrong seal, so what is taken is refused. */
    private void takes(Trade x, int waiting, int taken) {
        Made.wrongAnswers(x, waiting);
        s.due(x, x.pass(1), 0);
        s.due(x, x.count(6), taken);
        s.due(x, x.count(4), waiting - taken);
        s.due(x, x.waits(0), waiting > taken ? taken : RiddleTrade.NONE);
    }

    private void taken() {
        s.sentence(ROUND, "as many answers as the setting 2 tells (1 to 9; 3 at first), or all, if fewer wait");
        for (int most = 1; most <= 9; most++) {
            for (int waiting = most - 1; waiting <= most + 1; waiting++) {
                Trade x = new Trade();
                x.set(2, most);
                Made.riddles(x, 1);
                takes(x, waiting, Math.min(waiting, most));
            }
        }
        Trade full = new Trade();
        full.set(2, 9);
        Made.riddles(full, 1);
        takes(full, 40, 9);
    }

    private void nobodyIsTakenTwice() {
        s.sentence(ROUND, "as it is at the beginning of the round");
        Trade x = Made.poor();
        x.set(2, 9);
        // The answer 1 cannot be paid, the answer 2 will be doubted: 2 and 0 differ by more than 1 then.
        x.ask(0, 50, 0);
        x.ask(5, 1, 0);
        x.deliver(2, 1, 0, 1);
        x.deliver(2, 2, 0, 1);
        s.due(x, x.count(8), 2);
        s.due(x, x.pass(1), 1);
        s.due(x, x.count(8), 6);
        s.due(x, x.waits(0), 1);
        s.due(x, x.count(4), 1);
        x.set(0, 1);
        s.due(x, x.pass(1), 0);
        s.due(x, x.answer(1, 6), 1);
        s.due(x, x.count(8), 8);
    }

    private void notOpen() {
        s.sentence(ROUND, "1. If its riddle is not open, it is refused (reason 1)");
        Trade x = new Trade();
        Made.riddles(x, 1);
        x.deliver(6, 0, 0, 1);
        x.deliver(5, 0, 1, 1);
        x.withdraw(0);
        s.due(x, x.pass(1), 0);
        s.due(x, x.answer(0, 4), 2);
        s.due(x, x.answer(0, 5), 1);
        // The wrong seal would be the reason 2.
        s.due(x, x.answer(1, 5), 1);
        s.due(x, x.trader(6, 1), 100);
    }

    private void notOpenInTheSameRound() {
        s.sentence(ROUND, "If its riddle is not open");
        Trade x = new Trade();
        Made.riddles(x, 2);
        x.deliver(6, 0, 0, 1);
        x.deliver(5, 0, 0, 1);
        x.deliver(4, 0, 1, 1);
        s.due(x, x.pass(1), 1);
        s.due(x, x.answer(0, 4), 1);
        s.due(x, x.answer(1, 5), 1);
        s.due(x, x.answer(2, 5), 1);
        s.due(x, x.count(8), 2);
        s.due(x, x.trader(7, 1), 99);
    }

    private void wrongSeal() {
        s.sentence(ROUND, "; if its seal is not that of the riddle, it is refused (reason 2).");
        seals(50, 49, 2);
        seals(50, 51, 2);
        seals(50, 50, 0);
        seals(0, 0, 0);
        seals(0, 99, 2);
        seals(99, 99, 0);
        seals(99, 0, 2);
    }

    private void seals(int ofRiddle, int ofAnswer, int reason) {
        Trade x = new Trade();
        x.ask(0, 1, ofRiddle);
        x.deliver(1, 0, ofAnswer, 1);
        s.due(x, x.pass(1), reason == 0 ? 1 : 0);
        s.due(x, x.answer(0, 4), reason == 0 ? 1 : 2);
        s.due(x, x.answer(0, 5), reason);
        s.due(x, x.riddle(0, 3), reason == 0 ? 1 : 0);
    }

    private void notWeighed() {
        s.sentence(ROUND, "Neither is weighed.");
        Trade x = new Trade();
        Made.riddles(x, 2);
        Made.wrongAnswers(x, 1);
        x.deliver(6, 1, 0, 1);
        x.withdraw(1);
        s.due(x, x.pass(1), 0);
        s.due(x, x.count(6), 2);
        s.due(x, x.count(8), 0);
        s.due(x, x.count(12), 9);
        s.due(x, x.count(13), 9);
    }

    private void weighedByBoth() {
        s.sentence(ROUND, "2. Otherwise it is weighed, by the scale 0 and then by the scale 1.");
        Trade x = new Trade();
        Made.riddles(x, 2);
        x.deliver(6, 0, 0, 1);
        x.deliver(6, 1, 0, 1);
        s.due(x, x.pass(1), 2);
        s.due(x, x.count(8), 4);
        s.due(x, x.count(12), 11);
        s.due(x, x.count(13), 7);
    }

    private void doubtedAtFirst() {
        s.sentence(ROUND, "If both tell numbers that differ by more than the setting 0 (0 to 9; 2 at first), "
            + "it is doubted once more");
        Trade x = new Trade();
        s.due(x, x.count(14), 2);
        // 1 and 1, then 2 and 0: neither differ by more than 2.
        Made.weighings(x, 2);
        s.due(x, x.count(5), 2);
        s.due(x, x.count(7), 0);
        // 3 and 0 do.
        Made.riddles(x, 1);
        x.deliver(6, 2, 0, 1);
        s.due(x, x.pass(1), 0);
        s.due(x, x.count(7), 1);
        s.due(x, x.answer(2, 6), 1);
        s.due(x, x.answer(2, 4), 0);
    }

    private void doubted() {
        s.sentence(ROUND, "differ by more than the setting 0 (0 to 9; 2 at first)");
        // With the weight 1 and the drift 0 both numbers are 1; with a drift above it they are it and 1, and 0.
        differ(0, 0, false);
        differ(0, 1, true);
        differ(1, 0, false);
        differ(1, 1, true);
        for (int most = 2; most <= 9; most++) {
            differ(most, most - 1, false);
            differ(most, most, true);
        }
    }

    private void differ(int most, int drift, boolean doubted) {
        Trade x = new Trade();
        x.set(0, 9);
        x.set(1, 9);
        Made.weighings(x, drift);
        x.set(0, most);
        Made.riddles(x, 1);
        x.deliver(6, drift, 0, 1);
        s.told(x, x.reason(drift), doubted ? 3 : 0);
        s.due(x, x.pass(1), doubted ? 0 : 1);
        s.due(x, x.answer(drift, 6), doubted ? 1 : 0);
        s.due(x, x.answer(drift, 4), doubted ? 0 : 1);
    }

    private void doubtedOnTheOtherSide() {
        s.sentence(ROUND, "If both tell numbers that differ");
        Trade x = new Trade();
        x.set(0, 9);
        x.set(1, 2);
        // The drift is -2 then: 0 and 3, or 48 and 52.
        Made.weighings(x, 3);
        Made.riddles(x, 2);
        x.deliver(6, 3, 0, 1);
        x.deliver(6, 4, 0, 50);
        x.set(0, 2);
        s.told(x, x.reason(3), 3);
        x.set(0, 3);
        s.told(x, x.reason(3), 0);
        s.told(x, x.reason(4), 3);
        x.set(0, 4);
        s.told(x, x.reason(4), 0);
    }

    private void threeDoubts() {
        s.sentence(ROUND, "; with 3 doubts it is refused (reason 3), otherwise it goes to the end of the row.");
        Trade x = new Trade();
        x.set(0, 9);
        Made.weighings(x, 1);
        x.set(0, 0);
        x.set(2, 1);
        Made.riddles(x, 2);
        x.deliver(6, 1, 0, 1);
        x.deliver(5, 2, 0, 1);
        // The drifts are 1, 2, 3, 4, -4, -3: never do both scales tell alike. The answers 1 and 2 take turns.
        for (int turn = 1; turn <= 3; turn++) {
            for (int answer = 1; answer <= 2; answer++) {
                s.due(x, x.waits(0), answer);
                s.due(x, x.pass(1), 0);
                s.due(x, x.answer(answer, 6), turn);
                s.due(x, x.answer(answer, 4), turn == 3 ? 2 : 0);
                s.due(x, x.answer(answer, 5), turn == 3 ? 3 : 0);
                s.due(x, x.waits(1), turn < 3 ? answer : RiddleTrade.NONE);
            }
        }
        s.due(x, x.count(4), 0);
        s.due(x, x.count(7), 6);
        s.due(x, x.riddle(1, 3), 0);
        s.due(x, x.riddle(2, 3), 0);
    }

    private void payment() {
        s.sentence(ROUND, "3. Otherwise the payment is the price of the riddle, and a tenth of both numbers, together, "
            + "rounded down.");
        int[] weights = {1, 4, 5, 9, 10, 14, 15, 49, 50, 94, 95, 99};
        int[] tenths = {0, 0, 1, 1, 2, 2, 3, 9, 10, 18, 19, 19};
        for (int i = 0; i < weights.length; i++) {
            costs(1, weights[i], 1 + tenths[i]);
            costs(50, weights[i], 50 + tenths[i]);
        }
        // 5 and 0 differ by no more than 9; a tenth of 5 is none. 9 and 1 are ten.
        Trade x = new Trade();
        x.set(0, 9);
        Made.weighings(x, 4);
        Made.riddles(x, 1);
        x.deliver(6, 4, 0, 5);
        s.due(x, x.pass(1), 1);
        s.due(x, x.answer(4, 7), 2);
    }

    private void costs(int price, int weight, int payment) {
        Trade x = new Trade();
        x.ask(0, price, 0);
        x.deliver(1, 0, 0, weight);
        s.due(x, x.pass(1), 1);
        s.due(x, x.answer(0, 7), payment);
        s.due(x, x.trader(0, 1), 100 - payment);
        s.due(x, x.trader(1, 1), 100 + payment);
        s.due(x, x.count(11), payment);
    }

    private void cannotPay() {
        s.sentence(ROUND, "If the asker cannot pay it without having less than the least that is allowed, "
            + "it goes to the end of the row (no doubt).");
        Trade x = Made.poor();
        s.due(x, x.trader(0, 1), 31);
        x.ask(0, 32, 0);
        x.ask(0, 31, 0);
        x.deliver(2, 1, 0, 1);
        x.deliver(3, 2, 0, 1);
        s.told(x, x.reason(1), 4);
        s.told(x, x.reason(2), 0);
        s.due(x, x.pass(1), 0);
        s.due(x, x.waits(0), 2);
        s.due(x, x.waits(1), 1);
        s.due(x, x.answer(1, 6), 0);
        s.due(x, x.count(8), 4);
        s.due(x, x.pass(1), 1);
        s.due(x, x.trader(0, 1), 0);
        s.due(x, x.trader(0, 0), 0);
        x.set(3, 31);
        s.told(x, x.reason(1), 4);
        x.set(3, 32);
        s.told(x, x.reason(1), 0);
        s.due(x, x.pass(1), 1);
        // Of the debt of 32 a fee of 1 is paid.
        s.due(x, x.trader(0, 0), 33);
    }

    private void cannotPayForLong() {
        s.sentence(ROUND, "it goes to the end of the row (no doubt)");
        Trade x = Made.poor();
        x.ask(0, 32, 0);
        x.deliver(2, 1, 0, 1);
        s.due(x, x.pass(99), 0);
        s.due(x, x.answer(1, 4), 0);
        s.due(x, x.answer(1, 6), 0);
        s.due(x, x.answer(1, 8), 0);
        s.due(x, x.count(8), 2 + 2 * 99);
    }

    private void paid() {
        s.sentence(ROUND, "Otherwise the asker pays it to the giver, the answer and the riddle are paid.");
        Trade x = new Trade();
        x.ask(3, 10, 5);
        x.deliver(4, 0, 5, 10);
        s.due(x, x.pass(1), 1);
        s.due(x, x.trader(3, 1), 88);
        s.due(x, x.trader(4, 1), 112);
        s.due(x, x.answer(0, 4), 1);
        s.due(x, x.answer(0, 5), 0);
        s.due(x, x.answer(0, 8), RiddleTrade.NONE);
        s.due(x, x.riddle(0, 3), 1);
        s.due(x, x.riddle(0, 6), 0);
        s.due(x, x.count(4), 0);
        s.due(x, x.count(9), 0);
    }

    private void fees() {
        s.sentence(ROUND, "Then each trader in debt pays a fee to the house: a twentieth of the debt, rounded down, "
            + "but 5 at most (even if the debt is greater then than the setting 3 tells).");
        int[] debts = {0, 1, 19, 20, 39, 40, 59, 60, 79, 80, 99, 100, 119, 120, 121, 500};
        int[] fees = {0, 0, 0, 1, 1, 2, 2, 3, 3, 4, 4, 5, 5, 5, 5, 5};
        for (int i = 0; i < debts.length; i++) {
            fee(debts[i], fees[i]);
        }
    }

    /** The setting 3 is just the debt, so that the fee makes it greater than that. */
    private void fee(int debt, int fee) {
        Trade x = Made.generous(debt);
        int answers = Made.answersFor(x, 0, 1, 100 + debt);
        s.due(x, x.pass(1), answers);
        s.due(x, x.trader(0, 0), debt + fee);
        s.due(x, x.trader(0, 7), fee);
        s.due(x, x.trader(1, 1), 200 + debt);
        s.due(x, x.trader(1, 7), 0);
        s.due(x, x.count(9), fee);
        s.due(x, x.count(11), 100 + debt);
        // The next fee is reckoned from what is owed then.
        int next = Math.min(5, (debt + fee) / 20);
        s.due(x, x.pass(1), 0);
        s.due(x, x.trader(0, 0), debt + fee + next);
        x.set(3, 0);
        s.due(x, x.trader(0, 0), debt + fee + next);
    }

    private void feesOfMany() {
        s.sentence(ROUND, "each trader in debt pays a fee to the house");
        Trade x = Made.generous(50);
        Made.answersFor(x, 0, 1, 120);
        Made.answersFor(x, 7, 1, 140);
        Made.answersFor(x, 3, 1, 100);
        s.due(x, x.pass(1), 7);
        s.due(x, x.trader(0, 0), 21);
        s.due(x, x.trader(7, 0), 42);
        s.due(x, x.trader(3, 0), 0);
        s.due(x, x.trader(3, 1), 0);
        s.due(x, x.count(9), 3);
        s.due(x, x.count(10), 2);
        s.due(x, x.pass(99), 0);
        // From 21 to 40 in 19 rounds, to 60 in 10, to 81 in 7, to 101 in 5, and by 5 in each of 58 more to 391.
        s.due(x, x.trader(0, 0), 391);
        s.due(x, x.trader(0, 7), 371);
        // From 42 to 60 in 9 rounds, to 81 in 7, to 101 in 5, and by 5 in each of 78 more to 491.
        s.due(x, x.trader(7, 0), 491);
        s.due(x, x.trader(7, 7), 451);
        s.due(x, x.count(9), 822);
    }

    private void feesComeLast() {
        s.sentence(ROUND, "Then each trader in debt pays");
        Trade x = Made.generous(50);
        // Trader 0 pays 140 first, and then gets 21: of 19 there is no fee.
        int first = Made.answersFor(x, 0, 1, 140);
        Made.answersFor(x, 2, 0, 21);
        s.due(x, x.pass(1), first + 1);
        s.due(x, x.trader(0, 0), 19);
        s.due(x, x.count(9), 0);
        // And a debt that is paid back in the round costs nothing at all.
        Made.answersFor(x, 2, 0, 19);
        s.due(x, x.pass(1), 1);
        s.due(x, x.trader(0, 0), 0);
        s.due(x, x.trader(0, 1), 0);
        s.due(x, x.count(9), 0);
    }

    private void nextNumber() {
        s.sentence(ROUND, "Then the number of the round is 1 more.");
        Trade x = new Trade();
        s.due(x, x.pass(1), 0);
        s.due(x, x.count(0), 1);
        s.due(x, x.pass(99), 0);
        s.due(x, x.count(0), 100);
        Made.weighings(x, 1);
        s.due(x, x.count(0), 101);
    }
}
