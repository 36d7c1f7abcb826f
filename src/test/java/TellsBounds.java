/** The boundary cases of the promises 15 to 19 and 23 to 25: trader, riddle, answer, waits, weigh, richest, .. */
final class TellsBounds {
    private static final int UNKNOWN = RiddleTrade.UNKNOWN;
    private static final int BAD_VALUE = RiddleTrade.BAD_VALUE;
    private static final int NONE = RiddleTrade.NONE;
    private static final int LEAST = Integer.MIN_VALUE;
    private static final int MOST = Integer.MAX_VALUE;

    private final Sentences s;

    TellsBounds(Sentences sentences) {
        s = sentences;
    }

    void all() {
        traderRange();
        traderCoins();
        traderRiddles();
        traderAnswers();
        traderFees();
        riddleRange();
        riddleWhole();
        riddleAnswers();
        answerRange();
        answerWhole();
        answerRefused();
        answerPaid();
        answerPlace();
        waits();
        weighRange();
        weighNow();
        richest();
        account();
        accountOfMany();
        countOfRounds();
        countOfThings();
        countOfWeighings();
        countOfCoins();
        countOfScalesAndSettings();
        countOfStates();
        countErrors();
    }

    private void traderRange() {
        s.sentence("Promise 15", "`trader`: 0 to 7");
        Trade x = new Trade();
        s.told(x, x.trader(0, 1), 100);
        s.told(x, x.trader(7, 1), 100);
        s.sentence("Promise 15", "Returns the number; UNKNOWN; BAD_VALUE.");
        for (int trader : new int[] {-1, 8, LEAST, MOST}) {
            s.refused(x, x.trader(trader, 0), UNKNOWN);
            s.refused(x, x.trader(trader, 8), UNKNOWN);
            s.refused(x, x.trader(trader, -1), UNKNOWN);
        }
        for (int what : new int[] {-1, 8, LEAST, MOST}) {
            s.refused(x, x.trader(0, what), BAD_VALUE);
            s.refused(x, x.trader(7, what), BAD_VALUE);
        }
    }

    private void traderCoins() {
        s.sentence("Promise 15", "`what`: 0 for the debt (0 without one), 1 for the coins (0 in debt)");
        coins(0, 0, 100);
        coins(99, 0, 1);
        coins(100, 0, 0);
        coins(101, 1, 0);
        coins(119, 19, 0);
        coins(120, 21, 0);
    }

    private void coins(int paid, int debt, int coins) {
        Trade x = Made.generous(500);
        Made.answersFor(x, 0, 1, paid);
        x.pass(1);
        s.due(x, x.trader(0, 0), debt);
        s.due(x, x.trader(0, 1), coins);
        s.due(x, x.trader(1, 0), 0);
        s.due(x, x.trader(1, 1), 100 + paid);
    }

    private void traderRiddles() {
        s.sentence("Promise 15", ", 2 for riddles asked so far, 3 for those that were paid");
        Trade x = new Trade();
        s.due(x, x.trader(7, 2), 0);
        Made.riddles(x, 19);
        s.due(x, x.trader(7, 2), 19);
        s.due(x, x.trader(7, 3), 0);
        x.deliver(6, 0, 0, 1);
        x.deliver(6, 1, 1, 1);
        x.withdraw(2);
        x.pass(1);
        s.due(x, x.trader(7, 2), 19);
        s.due(x, x.trader(7, 3), 1);
        s.due(x, x.trader(6, 2), 0);
        s.due(x, x.trader(6, 3), 0);
        x.ask(6, 1, 1);
        s.due(x, x.trader(6, 2), 1);
        s.refused(x, x.ask(7, 1, 1), RiddleTrade.FULL);
        s.due(x, x.trader(7, 2), 19);
        x.undo();
        s.due(x, x.trader(6, 2), 0);
    }

    private void traderAnswers() {
        s.sentence("Promise 15", ", 4 for answers delivered so far, 5 for those that were paid, "
            + "6 for those that were refused");
        Trade x = new Trade();
        s.due(x, x.trader(6, 4), 0);
        Made.riddles(x, 1);
        x.deliver(6, 0, 0, 1);
        Made.wrongAnswers(x, 39);
        s.due(x, x.trader(6, 4), 40);
        s.due(x, x.trader(6, 5), 0);
        s.due(x, x.trader(6, 6), 0);
        x.pass(1);
        s.due(x, x.trader(6, 4), 40);
        s.due(x, x.trader(6, 5), 1);
        s.due(x, x.trader(6, 6), 2);
        x.pass(13);
        s.due(x, x.trader(6, 5), 1);
        s.due(x, x.trader(6, 6), 39);
        s.due(x, x.trader(7, 4), 0);
        s.due(x, x.trader(7, 5), 0);
        s.due(x, x.trader(7, 6), 0);
    }

    private void traderFees() {
        s.sentence("Promise 15", ", 7 for fees so far");
        Trade x = Made.generous(500);
        Made.answersFor(x, 0, 1, 139);
        x.pass(1);
        s.due(x, x.trader(0, 7), 1);
        x.pass(1);
        s.due(x, x.trader(0, 7), 3);
        // The fees stay when the debt is gone.
        Made.answersFor(x, 1, 0, 42);
        x.pass(1);
        s.due(x, x.trader(0, 0), 0);
        s.due(x, x.trader(0, 1), 0);
        s.due(x, x.trader(0, 7), 3);
        s.due(x, x.trader(1, 7), 0);
    }

    private void riddleRange() {
        s.sentence("Promise 16", "`riddle`: a riddle");
        Trade x = new Trade();
        s.refused(x, x.riddle(0, 0), UNKNOWN);
        Made.riddles(x, 1);
        s.told(x, x.riddle(0, 0), 7);
        s.refused(x, x.riddle(1, 0), UNKNOWN);
        Made.riddles(x, 19);
        s.told(x, x.riddle(19, 0), 7);
        s.sentence("Promise 16", "Returns the number; UNKNOWN; BAD_VALUE.");
        for (int riddle : new int[] {-1, 20, LEAST, MOST}) {
            s.refused(x, x.riddle(riddle, 0), UNKNOWN);
            s.refused(x, x.riddle(riddle, 7), UNKNOWN);
            s.refused(x, x.riddle(riddle, -1), UNKNOWN);
        }
        for (int what : new int[] {-1, 7, LEAST, MOST}) {
            s.refused(x, x.riddle(0, what), BAD_VALUE);
            s.refused(x, x.riddle(19, what), BAD_VALUE);
        }
    }

    private void riddleWhole() {
        s.sentence("Promise 16", "`what`: 0 for its asker, 1 for its price, 2 for its seal, "
            + "3 for whether it is open (0), paid (1) or withdrawn (2)");
        Trade x = new Trade();
        x.ask(0, 1, 0);
        x.ask(7, 50, 99);
        s.told(x, x.riddle(0, 0), 0);
        s.told(x, x.riddle(0, 1), 1);
        s.told(x, x.riddle(0, 2), 0);
        s.told(x, x.riddle(0, 3), 0);
        s.told(x, x.riddle(1, 0), 7);
        s.told(x, x.riddle(1, 1), 50);
        s.told(x, x.riddle(1, 2), 99);
        x.deliver(1, 0, 0, 1);
        s.due(x, x.riddle(0, 3), 0);
        x.pass(1);
        s.told(x, x.riddle(0, 3), 1);
        x.withdraw(1);
        s.told(x, x.riddle(1, 3), 2);
    }

    private void riddleAnswers() {
        s.sentence("Promise 16", ", 4 for answers to it so far, 5 for those that wait, "
            + "6 for the answer that was paid (NONE without one)");
        Trade x = new Trade();
        Made.riddles(x, 3);
        s.told(x, x.riddle(0, 4), 0);
        s.told(x, x.riddle(0, 5), 0);
        s.told(x, x.riddle(0, 6), NONE);
        Made.wrongAnswers(x, 2);
        x.deliver(5, 1, 0, 1);
        x.deliver(5, 0, 0, 1);
        x.deliver(5, 0, 0, 1);
        s.told(x, x.riddle(0, 4), 4);
        s.told(x, x.riddle(0, 5), 4);
        s.told(x, x.riddle(0, 6), NONE);
        s.due(x, x.pass(1), 1);
        s.told(x, x.riddle(0, 5), 2);
        s.told(x, x.riddle(0, 6), NONE);
        s.told(x, x.riddle(1, 6), 2);
        s.due(x, x.pass(1), 1);
        s.told(x, x.riddle(0, 4), 4);
        s.told(x, x.riddle(0, 5), 0);
        s.told(x, x.riddle(0, 6), 3);
        x.withdraw(2);
        s.told(x, x.riddle(2, 6), NONE);
        // The answer 0 is a number, not NONE; and all 40 can be to one riddle.
        Trade full = new Trade();
        Made.riddles(full, 1);
        full.deliver(6, 0, 0, 1);
        Made.wrongAnswers(full, 39);
        s.told(full, full.riddle(0, 4), 40);
        s.told(full, full.riddle(0, 5), 40);
        full.pass(1);
        s.told(full, full.riddle(0, 4), 40);
        s.told(full, full.riddle(0, 5), 37);
        s.told(full, full.riddle(0, 6), 0);
    }

    private void answerRange() {
        s.sentence("Promise 17", "`answer`: an answer");
        Trade x = new Trade();
        s.refused(x, x.answer(0, 0), UNKNOWN);
        Made.riddles(x, 1);
        s.refused(x, x.answer(0, 0), UNKNOWN);
        Made.wrongAnswers(x, 1);
        s.told(x, x.answer(0, 0), 6);
        s.refused(x, x.answer(1, 0), UNKNOWN);
        Made.wrongAnswers(x, 39);
        s.told(x, x.answer(39, 0), 6);
        s.sentence("Promise 17", "Returns the number; UNKNOWN; BAD_VALUE.");
        for (int answer : new int[] {-1, 40, LEAST, MOST}) {
            s.refused(x, x.answer(answer, 0), UNKNOWN);
            s.refused(x, x.answer(answer, 9), UNKNOWN);
            s.refused(x, x.answer(answer, -1), UNKNOWN);
        }
        for (int what : new int[] {-1, 9, LEAST, MOST}) {
            s.refused(x, x.answer(0, what), BAD_VALUE);
            s.refused(x, x.answer(39, what), BAD_VALUE);
        }
    }

    private void answerWhole() {
        s.sentence("Promise 17", "`what`: 0 for its giver, 1 for its riddle, 2 for its seal, 3 for its weight, "
            + "4 for whether it waits (0), is paid (1) or is refused (2)");
        Trade x = new Trade();
        x.ask(7, 1, 0);
        x.ask(0, 1, 99);
        x.deliver(0, 0, 0, 1);
        x.deliver(7, 1, 98, 99);
        int[][] told = {{0, 0, 0, 1, 0}, {7, 1, 98, 99, 0}};
        for (int answer = 0; answer < 2; answer++) {
            for (int what = 0; what < 5; what++) {
                s.told(x, x.answer(answer, what), told[answer][what]);
            }
        }
        x.pass(1);
        s.told(x, x.answer(0, 4), 1);
        s.told(x, x.answer(1, 4), 2);
    }

    private void answerRefused() {
        s.sentence("Promise 17", ", 5 for the reason for which it was refused (0 if it was not), 6 for its doubts");
        Trade x = new Trade();
        Made.riddles(x, 3);
        x.deliver(6, 0, 0, 1);
        x.deliver(6, 0, 0, 1);
        x.deliver(6, 1, 1, 1);
        for (int answer = 0; answer < 3; answer++) {
            s.told(x, x.answer(answer, 5), 0);
            s.told(x, x.answer(answer, 6), 0);
        }
        x.pass(1);
        for (int answer = 0; answer < 3; answer++) {
            s.told(x, x.answer(answer, 5), answer);
            s.told(x, x.answer(answer, 6), 0);
        }
        // The drifts are 1, 2 and 3, so both scales never tell alike.
        x.set(0, 0);
        x.deliver(6, 2, 0, 1);
        for (int doubts = 1; doubts <= 3; doubts++) {
            x.pass(1);
            s.told(x, x.answer(3, 6), doubts);
            s.told(x, x.answer(3, 5), doubts < 3 ? 0 : 3);
        }
        x.pass(9);
        s.told(x, x.answer(3, 6), 3);
    }

    private void answerPaid() {
        s.sentence("Promise 17", ", 7 for what was paid for it (0 if it was not)");
        Trade x = new Trade();
        x.ask(0, 1, 0);
        x.ask(0, 50, 0);
        x.deliver(1, 0, 0, 1);
        x.deliver(1, 1, 0, 99);
        x.deliver(1, 1, 1, 99);
        s.told(x, x.answer(0, 7), 0);
        s.told(x, x.answer(1, 7), 0);
        s.due(x, x.pass(1), 2);
        s.told(x, x.answer(0, 7), 1);
        s.told(x, x.answer(1, 7), 69);
        s.told(x, x.answer(2, 7), 0);
    }

    private void answerPlace() {
        s.sentence("Promise 17", ", 8 for its place in the row, from 0 (NONE if it does not wait)");
        Trade x = new Trade();
        Made.riddles(x, 2);
        x.deliver(6, 1, 0, 1);
        Made.wrongAnswers(x, 39);
        s.told(x, x.answer(0, 8), 0);
        s.told(x, x.answer(1, 8), 1);
        s.told(x, x.answer(39, 8), 39);
        x.pass(1);
        s.told(x, x.answer(0, 8), NONE);
        s.told(x, x.answer(2, 8), NONE);
        s.told(x, x.answer(3, 8), 0);
        s.told(x, x.answer(39, 8), 36);
        x.pass(12);
        s.told(x, x.answer(38, 8), NONE);
        s.told(x, x.answer(39, 8), 0);
        x.pass(1);
        s.told(x, x.answer(39, 8), NONE);
    }

    private void waits() {
        s.sentence("Promise 18", "Tells the answers that wait, in the row.");
        Trade x = new Trade();
        Made.riddles(x, 1);
        Made.wrongAnswers(x, 38);
        x.pass(12);
        Made.wrongAnswers(x, 2);
        // The places of the row go around, the ranks do not.
        for (int rank = 0; rank < 4; rank++) {
            s.told(x, x.waits(rank), 36 + rank);
        }
        s.sentence("Promise 18", "`rank`: from 0");
        Trade full = new Trade();
        s.told(full, full.waits(0), NONE);
        Made.riddles(full, 1);
        Made.wrongAnswers(full, 40);
        s.told(full, full.waits(0), 0);
        s.told(full, full.waits(39), 39);
        s.sentence("Promise 18", "Returns the answer; BAD_VALUE if rank is negative");
        s.refused(full, full.waits(-1), BAD_VALUE);
        s.refused(full, full.waits(LEAST), BAD_VALUE);
        Trade empty = new Trade();
        s.refused(empty, empty.waits(-1), BAD_VALUE);
        s.sentence("Promise 18", "NONE if there are not so many.");
        s.told(empty, empty.waits(0), NONE);
        s.told(x, x.waits(4), NONE);
        s.told(x, x.waits(39), NONE);
        s.told(full, full.waits(40), NONE);
        s.told(full, full.waits(MOST), NONE);
    }

    private void weighRange() {
        s.sentence("Promise 19", "`scale`: 0 or 1");
        Trade x = new Trade();
        s.told(x, x.weigh(0, 7), 7);
        s.told(x, x.weigh(1, 7), 7);
        s.sentence("Promise 19", "`weight`: 1 to 99");
        for (int scale = 0; scale < 2; scale++) {
            s.told(x, x.weigh(scale, 1), 1);
            s.told(x, x.weigh(scale, 99), 99);
        }
        s.sentence("Promise 19", "Returns the number; UNKNOWN (scale); BAD_VALUE.");
        for (int scale : new int[] {-1, 2, LEAST, MOST}) {
            s.refused(x, x.weigh(scale, 1), UNKNOWN);
            s.refused(x, x.weigh(scale, 0), UNKNOWN);
            s.refused(x, x.weigh(scale, 100), UNKNOWN);
        }
        for (int weight : new int[] {-1, 0, 100, LEAST, MOST}) {
            s.refused(x, x.weigh(0, weight), BAD_VALUE);
            s.refused(x, x.weigh(1, weight), BAD_VALUE);
        }
    }

    private void weighNow() {
        s.sentence("Promise 19", "Tells what a scale would tell for a weight now.");
        Trade x = new Trade();
        x.set(0, 9);
        x.set(1, 9);
        Made.weighings(x, 9);
        s.told(x, x.weigh(0, 99), 108);
        s.told(x, x.weigh(1, 99), 90);
        s.told(x, x.weigh(0, 1), 10);
        s.told(x, x.weigh(1, 10), 1);
        s.told(x, x.weigh(1, 9), 0);
        s.told(x, x.weigh(1, 8), 0);
        s.due(x, x.count(8), 18);
        x.adjust();
        s.told(x, x.weigh(0, 1), 1);
        s.told(x, x.weigh(1, 1), 1);
    }

    private void richest() {
        s.sentence("Promise 23", "Finds the trader with the most coins (a debt counts below 0), "
            + "of several the lowest.");
        Trade x = new Trade();
        s.told(x, x.richest(), 0);
        x.ask(0, 1, 0);
        x.deliver(7, 0, 0, 1);
        x.pass(1);
        s.told(x, x.richest(), 7);
        x.ask(0, 1, 0);
        x.deliver(3, 1, 0, 1);
        x.pass(1);
        s.told(x, x.richest(), 3);
        Trade first = new Trade();
        first.ask(7, 1, 0);
        first.deliver(0, 0, 0, 1);
        first.pass(1);
        s.told(first, first.richest(), 0);
        // Trader 0 owes 315, and nobody has so many: 169 is the most, which the traders 1 and 2 have.
        Trade owing = Made.generous(500);
        for (int giver = 1; giver <= 6; giver++) {
            Made.answersFor(owing, 0, giver, giver <= 2 ? 69 : 68);
        }
        s.due(owing, owing.pass(1), 6);
        s.due(owing, owing.trader(0, 0), 315);
        s.told(owing, owing.richest(), 1);
        s.sentence("Promise 23", "Returns the trader.");
        Made.answersFor(owing, 1, 7, 69);
        owing.pass(1);
        s.told(owing, owing.richest(), 2);
    }

    private void account() {
        s.sentence("Promise 24", "Tells the coins of a trader in another way: 100, and all that was paid for answers, "
            + "less all that the trader paid for riddles, and less fees.");
        Trade x = Made.generous(500);
        Made.answersFor(x, 0, 1, 600);
        s.told(x, x.account(0), 100100);
        x.pass(1);
        s.told(x, x.account(0), 100100 - 600 - 5);
        s.told(x, x.account(1), 100700);
        s.told(x, x.account(2), 100100);
        x.pass(99);
        s.told(x, x.account(0), 100100 - 600 - 500);
        s.sentence("Promise 24", "`trader`: 0 to 7");
        s.told(x, x.account(7), 100100);
        s.sentence("Promise 24", "Returns the coins, and 100000; UNKNOWN.");
        for (int trader : new int[] {-1, 8, LEAST, MOST}) {
            s.refused(x, x.account(trader), UNKNOWN);
        }
        Trade none = Made.generous(0);
        Made.answersFor(none, 3, 4, 100);
        none.pass(1);
        s.told(none, none.account(3), 100000);
        s.told(none, none.account(4), 100200);
    }

    private void accountOfMany() {
        s.sentence("Promise 24", "all that was paid for answers, less all that the trader paid for riddles");
        Trade x = Made.generous(50);
        Made.answersFor(x, 0, 1, 60);
        Made.answersFor(x, 1, 2, 30);
        Made.answersFor(x, 2, 0, 55);
        Made.answersFor(x, 2, 1, 69);
        s.due(x, x.pass(1), 4);
        int[] coins = {95, 199, 6, 100, 100, 100, 100, 100};
        for (int trader = 0; trader < 8; trader++) {
            s.told(x, x.account(trader), 100000 + coins[trader]);
            s.told(x, x.trader(trader, 1), coins[trader]);
        }
    }

    private void countOfRounds() {
        s.sentence("Promise 25", "`what`: 0 for the round");
        Trade x = Made.roundsLeft(0);
        s.told(x, x.count(0), 9999);
        s.refused(x, x.pass(1), RiddleTrade.FULL);
        s.told(x, x.count(0), 9999);
    }

    private void countOfThings() {
        s.sentence("Promise 25", ", 1 for riddles, 2 for open ones");
        Trade x = new Trade();
        Made.riddles(x, 20);
        s.told(x, x.count(1), 20);
        s.told(x, x.count(2), 20);
        x.withdraw(0);
        s.told(x, x.count(2), 19);
        x.deliver(6, 1, 0, 1);
        x.pass(1);
        s.told(x, x.count(1), 20);
        s.told(x, x.count(2), 18);
        s.sentence("Promise 25", ", 3 for answers, 4 for those that wait, 5 for those that were paid, "
            + "6 for those that were refused, 7 for doubts so far");
        Trade y = new Trade();
        Made.riddles(y, 3);
        y.deliver(6, 1, 0, 1);
        Made.wrongAnswers(y, 38);
        s.told(y, y.count(3), 39);
        s.told(y, y.count(4), 39);
        y.pass(13);
        s.told(y, y.count(3), 39);
        s.told(y, y.count(4), 0);
        s.told(y, y.count(5), 1);
        s.told(y, y.count(6), 38);
        s.told(y, y.count(7), 0);
        y.set(0, 0);
        y.deliver(6, 2, 0, 1);
        s.told(y, y.count(3), 40);
        y.pass(2);
        s.told(y, y.count(4), 1);
        s.told(y, y.count(7), 2);
        y.pass(1);
        s.told(y, y.count(4), 0);
        s.told(y, y.count(6), 39);
        s.told(y, y.count(7), 3);
    }

    private void countOfWeighings() {
        s.sentence("Promise 25", ", 8 for weighings so far (each by one of both scales)");
        Trade x = Made.poor();
        s.told(x, x.count(8), 2);
        x.ask(0, 50, 0);
        x.deliver(2, 1, 0, 1);
        x.weigh(0, 1);
        x.weigh(1, 1);
        x.reason(1);
        x.settledIn(1);
        x.ifRounds(99, true);
        s.told(x, x.count(8), 2);
        x.pass(99);
        s.told(x, x.count(8), 200);
        x.withdraw(1);
        x.pass(1);
        s.told(x, x.count(8), 200);
        x.undo();
        x.undo();
        x.undo();
        s.told(x, x.count(8), 2);
    }

    private void countOfCoins() {
        s.sentence("Promise 25", ", 9 for the coins of the house, 10 for traders in debt, "
            + "11 for payments so far, together");
        Trade x = Made.generous(500);
        s.told(x, x.count(11), 0);
        Made.answersFor(x, 0, 1, 100);
        Made.answersFor(x, 2, 1, 101);
        Made.answersFor(x, 3, 1, 120);
        x.pass(1);
        s.told(x, x.count(9), 1);
        s.told(x, x.count(10), 2);
        s.told(x, x.count(11), 321);
        x.pass(1);
        s.told(x, x.count(9), 2);
        Made.answersFor(x, 1, 2, 1);
        x.pass(1);
        s.told(x, x.count(10), 1);
        s.told(x, x.count(11), 322);
        x.undo();
        s.told(x, x.count(10), 2);
        s.told(x, x.count(11), 321);
    }

    private void countOfScalesAndSettings() {
        s.sentence("Promise 25", ", 12 and 13 for the drifts of the scales 0 and 1, and 9");
        Trade x = new Trade();
        x.set(0, 9);
        x.set(1, 9);
        s.told(x, x.count(12), 9);
        s.told(x, x.count(13), 9);
        Made.weighings(x, 9);
        s.told(x, x.count(12), 18);
        s.told(x, x.count(13), 0);
        Made.weighings(x, 1);
        s.told(x, x.count(12), 0);
        s.told(x, x.count(13), 18);
        s.sentence("Promise 25", ", 14 to 17 for the settings");
        Trade y = new Trade();
        int[] first = {2, 4, 3, 50};
        int[] then = {9, 0, 1, 500};
        for (int which = 0; which < 4; which++) {
            s.told(y, y.count(14 + which), first[which]);
            y.set(which, then[which]);
            s.told(y, y.count(14 + which), then[which]);
        }
        for (int which = 0; which < 4; which++) {
            s.told(y, y.count(14 + which), then[which]);
        }
    }

    private void countOfStates() {
        s.sentence("Promise 25", ", 18 for the states in the history, 19 for the length of the text");
        Trade x = new Trade();
        for (int acts = 0; acts <= 5; acts++) {
            s.told(x, x.count(18), Math.min(acts, 4));
            x.pass(1);
        }
        for (int length = 0; length < 60; length++) {
            s.due(x, x.count(19), length);
            x.type('r');
        }
        s.told(x, x.count(19), 60);
        s.refused(x, x.type('r'), RiddleTrade.FULL);
        s.told(x, x.count(19), 60);
        x.undo();
        s.told(x, x.count(18), 3);
        s.told(x, x.count(19), 60);
        x.clearText();
        s.told(x, x.count(19), 0);
    }

    private void countErrors() {
        s.sentence("Promise 25", "Returns the number; BAD_VALUE.");
        Trade x = new Trade();
        for (int what : new int[] {-1, 20, 21, LEAST, MOST}) {
            s.refused(x, x.count(what), BAD_VALUE);
        }
        s.told(x, x.count(0), 0);
        s.told(x, x.count(19), 0);
    }
}
