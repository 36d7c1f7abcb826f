/** Ways to bring an exchange into a state that a sentence of the document speaks of. */
final class Made {
    private static final int MOST_PRICE = 50;
    private static final int MOST_PAYMENT = 69;

    private Made() {
    }

    /**
     * So many weighings by each scale, in as many rounds: trader 7 pays 1 coin to trader 6 in each of them. The row
     * has to be empty, and the setting 0 so high that no answer with the weight 1 is doubted.
     */
    static void weighings(Trade x, int number) {
        for (int i = 0; i < number; i++) {
            int riddle = x.ask(7, 1, 0);
            x.deliver(6, riddle, 0, 1);
            x.pass(1);
        }
    }

    /** Delivers answers for which so many coins are paid together; returns how many answers these are. */
    static int answersFor(Trade x, int asker, int giver, int coins) {
        int answers = 0;
        for (int left = coins; left > 0; left -= MOST_PAYMENT) {
            int payment = Math.min(left, MOST_PAYMENT);
            int price = Math.min(payment, MOST_PRICE);
            int riddle = x.ask(asker, price, 0);
            // Five of the weight are ten of both numbers; 1 is nine at most with a drift up to 8.
            x.deliver(giver, riddle, 0, Math.max(1, 5 * (payment - price)));
            answers++;
        }
        return answers;
    }

    /** An exchange that takes many answers a round, doubts none, and lets a trader owe so many coins. */
    static Trade generous(int mostDebt) {
        Trade x = new Trade();
        x.set(0, 9);
        x.set(2, 9);
        x.set(3, mostDebt);
        return x;
    }

    /** Trader 0 has 31 coins and may not owe any, the drifts are 1 and -1; a round takes one answer, none is doubted. */
    static Trade poor() {
        Trade x = new Trade();
        x.set(0, 9);
        x.set(2, 1);
        x.set(3, 0);
        answersFor(x, 0, 1, MOST_PAYMENT);
        x.pass(1);
        return x;
    }

    /** Asks so many riddles as trader 7, for 1 coin, with the seal 0. */
    static void riddles(Trade x, int number) {
        for (int i = 0; i < number; i++) {
            x.ask(7, 1, 0);
        }
    }

    /** Delivers so many answers with the wrong seal 1 to the riddle 0, as trader 6. */
    static void wrongAnswers(Trade x, int number) {
        for (int i = 0; i < number; i++) {
            x.deliver(6, 0, 1, 1);
        }
    }

    /** The number of the round is so much below 9999. */
    static Trade roundsLeft(int left) {
        Trade x = new Trade();
        int rounds = 9999 - left;
        while (rounds > 0) {
            x.pass(Math.min(rounds, 99));
            rounds -= 99;
        }
        return x;
    }
}
