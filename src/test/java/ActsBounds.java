/** The boundary cases of the promises 1 to 7: a new object, ask, withdraw, deliver, adjust, set, pass. */
final class ActsBounds {
    private static final int UNKNOWN = RiddleTrade.UNKNOWN;
    private static final int BAD_VALUE = RiddleTrade.BAD_VALUE;
    private static final int FULL = RiddleTrade.FULL;
    private static final int NOT_POSSIBLE = RiddleTrade.NOT_POSSIBLE;
    private static final int NONE = RiddleTrade.NONE;
    private static final int LEAST = Integer.MIN_VALUE;
    private static final int MOST = Integer.MAX_VALUE;
    private static final int[] FIRST_SETTINGS = {2, 4, 3, 50};
    private static final int[] LEAST_SETTINGS = {0, 0, 1, 0};
    private static final int[] MOST_SETTINGS = {9, 9, 9, 500};

    private final Sentences s;

    ActsBounds(Sentences sentences) {
        s = sentences;
    }

    void all() {
        newObject();
        askIsAnAct();
        askRanges();
        askNumbers();
        askErrors();
        withdrawIsAnAct();
        withdrawRanges();
        withdrawCounts();
        withdrawErrors();
        deliverIsAnAct();
        deliverRanges();
        deliverNumbers();
        deliverErrors();
        adjust();
        adjustTells();
        adjustNone();
        setIsAnAct();
        setRanges();
        setTells();
        setErrors();
        passIsAnAct();
        passRanges();
        passTells();
        passErrors();
        passIsFull();
    }

    private void newObject() {
        s.sentence("Promise 1", "Creates an exchange without riddles, at the round 0.");
        Trade x = new Trade();
        int[] counts = {0, 0, 0, 0, 0, 0, 0, 0, 0, 0, 0, 0, 9, 9, 2, 4, 3, 50, 0, 0};
        for (int what = 0; what < counts.length; what++) {
            s.due(x, x.count(what), counts[what]);
        }
        s.refused(x, x.riddle(0, 0), UNKNOWN);
        s.refused(x, x.answer(0, 0), UNKNOWN);
        s.refused(x, x.withdraw(0), UNKNOWN);
        s.refused(x, x.deliver(1, 0, 0, 1), UNKNOWN);
        s.refused(x, x.reason(0), UNKNOWN);
        s.refused(x, x.settledIn(0), UNKNOWN);
        s.told(x, x.waits(0), NONE);
        s.told(x, x.undo(), NONE);
        s.told(x, x.restore(), NONE);
        s.told(x, x.adjust(), NONE);
        s.refused(x, x.perform(), -100);
        s.due(x, x.pass(1), 0);
    }

    private void askIsAnAct() {
        s.sentence("Promise 2", "Asks a riddle. This is an act.");
        Trade x = new Trade();
        s.acts(x, x.ask(3, 9, 5), 0);
        s.acts(x, x.ask(3, 9, 5), 1);
        s.due(x, x.riddle(1, 3), 0);
        s.due(x, x.trader(3, 1), 100);
    }

    private void askRanges() {
        s.sentence("Promise 2", "`trader`: 0 to 7");
        Trade x = new Trade();
        s.refused(x, x.ask(-1, 1, 0), UNKNOWN);
        s.refused(x, x.ask(8, 1, 0), UNKNOWN);
        s.refused(x, x.ask(LEAST, 1, 0), UNKNOWN);
        s.refused(x, x.ask(MOST, 1, 0), UNKNOWN);
        s.due(x, x.ask(0, 1, 0), 0);
        s.due(x, x.ask(7, 1, 0), 1);
        s.sentence("Promise 2", "`price`: 1 to 50");
        s.refused(x, x.ask(0, 0, 0), BAD_VALUE);
        s.refused(x, x.ask(0, 51, 0), BAD_VALUE);
        s.refused(x, x.ask(0, -1, 0), BAD_VALUE);
        s.refused(x, x.ask(0, LEAST, 0), BAD_VALUE);
        s.refused(x, x.ask(0, MOST, 0), BAD_VALUE);
        s.due(x, x.ask(0, 1, 0), 2);
        s.due(x, x.riddle(2, 1), 1);
        s.due(x, x.ask(0, 50, 0), 3);
        s.due(x, x.riddle(3, 1), 50);
        s.sentence("Promise 2", "`seal`: 0 to 99");
        s.refused(x, x.ask(0, 1, -1), BAD_VALUE);
        s.refused(x, x.ask(0, 1, 100), BAD_VALUE);
        s.refused(x, x.ask(0, 1, LEAST), BAD_VALUE);
        s.refused(x, x.ask(0, 1, MOST), BAD_VALUE);
        s.due(x, x.ask(0, 1, 0), 4);
        s.due(x, x.riddle(4, 2), 0);
        s.due(x, x.ask(0, 1, 99), 5);
        s.due(x, x.riddle(5, 2), 99);
    }

    private void askNumbers() {
        s.sentence("Promise 2", "Returns its number");
        Trade x = new Trade();
        s.due(x, x.ask(1, 1, 1), 0);
        s.refused(x, x.ask(1, 0, 1), BAD_VALUE);
        for (int riddle = 1; riddle < 20; riddle++) {
            s.due(x, x.ask(riddle % 8, 1 + riddle, riddle), riddle);
            s.due(x, x.count(1), riddle + 1);
        }
    }

    private void askErrors() {
        s.sentence("Promise 2", "UNKNOWN; BAD_VALUE");
        Trade x = new Trade();
        s.refused(x, x.ask(8, 0, 100), UNKNOWN);
        s.refused(x, x.ask(-1, 1, 100), UNKNOWN);
        s.refused(x, x.ask(0, 0, 100), BAD_VALUE);
        s.sentence("Promise 2", "FULL if 20 were asked");
        Made.riddles(x, 19);
        s.due(x, x.ask(0, 1, 0), 19);
        s.refused(x, x.ask(0, 1, 0), FULL);
        s.refused(x, x.ask(7, 50, 99), FULL);
        s.refused(x, x.ask(8, 0, 0), UNKNOWN);
        s.refused(x, x.ask(8, 1, 0), UNKNOWN);
        s.refused(x, x.ask(0, 0, 0), BAD_VALUE);
        s.refused(x, x.ask(0, 1, 100), BAD_VALUE);
        s.due(x, x.count(1), 20);
    }

    private void withdrawIsAnAct() {
        s.sentence("Promise 3", "Withdraws a riddle. This is an act.");
        Trade x = new Trade();
        Made.riddles(x, 2);
        s.acts(x, x.withdraw(1), 0);
        s.due(x, x.riddle(1, 3), 2);
        s.due(x, x.riddle(0, 3), 0);
        s.due(x, x.count(2), 1);
    }

    private void withdrawRanges() {
        s.sentence("Promise 3", "`riddle`: a riddle");
        Trade x = new Trade();
        s.refused(x, x.withdraw(0), UNKNOWN);
        Made.riddles(x, 2);
        s.refused(x, x.withdraw(-1), UNKNOWN);
        s.refused(x, x.withdraw(2), UNKNOWN);
        s.refused(x, x.withdraw(LEAST), UNKNOWN);
        s.refused(x, x.withdraw(MOST), UNKNOWN);
        s.due(x, x.withdraw(0), 0);
        s.due(x, x.withdraw(1), 0);
        Made.riddles(x, 18);
        s.refused(x, x.withdraw(20), UNKNOWN);
        s.due(x, x.withdraw(19), 0);
    }

    private void withdrawCounts() {
        s.sentence("Promise 3", "Returns how many answers to it wait");
        Trade x = new Trade();
        Made.riddles(x, 3);
        x.deliver(6, 0, 1, 1);
        x.deliver(5, 0, 0, 1);
        x.deliver(4, 1, 0, 1);
        x.deliver(4, 0, 0, 1);
        x.set(2, 1);
        // The first one is refused, and waits no more.
        s.due(x, x.pass(1), 0);
        s.due(x, x.withdraw(0), 2);
        s.due(x, x.withdraw(1), 1);
        s.due(x, x.withdraw(2), 0);
        s.due(x, x.count(4), 3);
        Trade full = new Trade();
        Made.riddles(full, 1);
        Made.wrongAnswers(full, 40);
        s.due(full, full.withdraw(0), 40);
    }

    private void withdrawErrors() {
        s.sentence("Promise 3", "UNKNOWN; NOT_POSSIBLE if it is not open");
        Trade x = new Trade();
        Made.riddles(x, 2);
        x.deliver(6, 1, 0, 1);
        x.withdraw(0);
        s.due(x, x.pass(1), 1);
        s.refused(x, x.withdraw(0), NOT_POSSIBLE);
        s.refused(x, x.withdraw(1), NOT_POSSIBLE);
        s.refused(x, x.withdraw(2), UNKNOWN);
        x.undo();
        s.due(x, x.withdraw(1), 1);
    }

    private void deliverIsAnAct() {
        s.sentence("Promise 4", "Delivers an answer. This is an act.");
        Trade x = new Trade();
        x.ask(0, 1, 5);
        s.acts(x, x.deliver(1, 0, 5, 3), 0);
        s.acts(x, x.deliver(1, 0, 5, 3), 1);
        s.due(x, x.count(4), 2);
        s.due(x, x.waits(1), 1);
    }

    private void deliverRanges() {
        s.sentence("Promise 4", "`trader`: 0 to 7");
        Trade x = new Trade();
        x.ask(0, 1, 5);
        x.ask(1, 1, 5);
        s.refused(x, x.deliver(-1, 0, 5, 1), UNKNOWN);
        s.refused(x, x.deliver(8, 0, 5, 1), UNKNOWN);
        s.refused(x, x.deliver(LEAST, 0, 5, 1), UNKNOWN);
        s.refused(x, x.deliver(MOST, 0, 5, 1), UNKNOWN);
        s.due(x, x.deliver(7, 0, 5, 1), 0);
        s.due(x, x.deliver(0, 1, 5, 1), 1);
        s.sentence("Promise 4", "`riddle`: a riddle");
        s.refused(x, x.deliver(2, -1, 5, 1), UNKNOWN);
        s.refused(x, x.deliver(2, 2, 5, 1), UNKNOWN);
        s.refused(x, x.deliver(2, 20, 5, 1), UNKNOWN);
        s.refused(x, x.deliver(2, LEAST, 5, 1), UNKNOWN);
        s.refused(x, x.deliver(2, MOST, 5, 1), UNKNOWN);
        s.sentence("Promise 4", "`seal`: 0 to 99");
        s.refused(x, x.deliver(2, 0, -1, 1), BAD_VALUE);
        s.refused(x, x.deliver(2, 0, 100, 1), BAD_VALUE);
        s.refused(x, x.deliver(2, 0, LEAST, 1), BAD_VALUE);
        s.refused(x, x.deliver(2, 0, MOST, 1), BAD_VALUE);
        s.due(x, x.deliver(2, 0, 0, 1), 2);
        s.due(x, x.deliver(2, 0, 99, 1), 3);
        s.sentence("Promise 4", "`weight`: 1 to 99");
        s.refused(x, x.deliver(2, 0, 0, 0), BAD_VALUE);
        s.refused(x, x.deliver(2, 0, 0, 100), BAD_VALUE);
        s.refused(x, x.deliver(2, 0, 0, LEAST), BAD_VALUE);
        s.refused(x, x.deliver(2, 0, 0, MOST), BAD_VALUE);
        s.due(x, x.deliver(2, 0, 0, 1), 4);
        s.due(x, x.deliver(2, 0, 0, 99), 5);
        s.due(x, x.answer(5, 3), 99);
        Made.riddles(x, 18);
        s.due(x, x.deliver(2, 19, 0, 1), 6);
        s.refused(x, x.deliver(2, 20, 0, 1), UNKNOWN);
    }

    private void deliverNumbers() {
        s.sentence("Promise 4", "Returns its number");
        Trade x = new Trade();
        Made.riddles(x, 2);
        s.due(x, x.deliver(0, 1, 1, 1), 0);
        s.refused(x, x.deliver(7, 1, 1, 1), NOT_POSSIBLE);
        for (int answer = 1; answer < 40; answer++) {
            s.due(x, x.deliver(answer % 7, answer % 2, 1, answer), answer);
            s.due(x, x.count(3), answer + 1);
        }
    }

    private void deliverErrors() {
        s.sentence("Promise 4", "UNKNOWN (trader or riddle); BAD_VALUE");
        Trade x = new Trade();
        Made.riddles(x, 2);
        s.refused(x, x.deliver(8, 2, 100, 0), UNKNOWN);
        s.refused(x, x.deliver(8, 0, 100, 0), UNKNOWN);
        s.refused(x, x.deliver(7, 2, 100, 0), UNKNOWN);
        s.refused(x, x.deliver(7, 0, 100, 0), BAD_VALUE);
        s.refused(x, x.deliver(7, 0, 0, 0), BAD_VALUE);
        s.refused(x, x.deliver(7, 0, -1, 1), BAD_VALUE);
        s.sentence("Promise 4", "NOT_POSSIBLE if the riddle is not open, or the trader asked it");
        s.refused(x, x.deliver(7, 0, 0, 1), NOT_POSSIBLE);
        x.deliver(6, 0, 0, 1);
        s.due(x, x.pass(1), 1);
        s.refused(x, x.deliver(6, 0, 0, 1), NOT_POSSIBLE);
        s.refused(x, x.deliver(7, 0, 0, 1), NOT_POSSIBLE);
        x.withdraw(1);
        s.refused(x, x.deliver(6, 1, 0, 1), NOT_POSSIBLE);
        s.refused(x, x.deliver(6, 1, 0, 100), BAD_VALUE);
        s.sentence("Promise 4", "FULL if 40 were delivered");
        Made.riddles(x, 1);
        for (int answer = 1; answer < 40; answer++) {
            s.due(x, x.deliver(6, 2, 1, 1), answer);
        }
        s.refused(x, x.deliver(6, 2, 0, 1), FULL);
        s.refused(x, x.deliver(6, 2, 0, 0), BAD_VALUE);
        s.refused(x, x.deliver(6, 3, 0, 1), UNKNOWN);
        s.refused(x, x.deliver(8, 2, 0, 1), UNKNOWN);
        s.refused(x, x.deliver(7, 2, 0, 1), NOT_POSSIBLE);
        s.refused(x, x.deliver(6, 1, 0, 1), NOT_POSSIBLE);
        s.refused(x, x.deliver(6, 0, 0, 1), NOT_POSSIBLE);
        s.due(x, x.count(3), 40);
    }

    private static Trade drifted(int mostDrift, int weighings) {
        Trade x = new Trade();
        x.set(0, 9);
        x.set(1, mostDrift);
        Made.weighings(x, weighings);
        return x;
    }

    private void adjust() {
        s.sentence("Promise 5", "Sets both scales right: their drifts are 0. This is an act.");
        Trade x = new Trade();
        Made.riddles(x, 1);
        x.deliver(6, 0, 0, 1);
        x.pass(1);
        s.due(x, x.count(12), 10);
        s.due(x, x.count(13), 8);
        s.acts(x, x.adjust(), 2);
        s.due(x, x.count(12), 9);
        s.due(x, x.count(13), 9);
        s.due(x, x.count(8), 2);
        s.due(x, x.weigh(0, 1), 1);
    }

    private void adjustTells() {
        s.sentence("Promise 5", "Returns the drifts of both, without their signs, together");
        int[] weighings = {1, 2, 3, 4, 5, 6, 7, 8};
        int[] drifts = {2, 4, 6, 8, 8, 6, 4, 2};
        for (int i = 0; i < weighings.length; i++) {
            Trade x = drifted(4, weighings[i]);
            s.due(x, x.adjust(), drifts[i]);
            s.due(x, x.count(12), 9);
            s.due(x, x.count(13), 9);
        }
        Trade most = drifted(9, 9);
        s.due(most, most.adjust(), 18);
        Trade other = drifted(8, 9);
        s.due(other, other.count(12), 1);
        s.due(other, other.adjust(), 16);
    }

    private void adjustNone() {
        s.sentence("Promise 5", "NONE if both are 0.");
        Trade x = drifted(4, 0);
        s.told(x, x.adjust(), NONE);
        Made.weighings(x, 1);
        s.due(x, x.adjust(), 2);
        s.told(x, x.adjust(), NONE);
        Trade around = drifted(4, 9);
        s.told(around, around.adjust(), NONE);
        Trade still = drifted(0, 3);
        s.due(still, still.count(8), 6);
        s.told(still, still.adjust(), NONE);
    }

    private void setIsAnAct() {
        s.sentence("Promise 6", "Sets a setting; drifts and debts stay as they are. This is an act.");
        Trade x = new Trade();
        s.acts(x, x.set(0, 9), 2);
        x = drifted(4, 4);
        s.due(x, x.set(1, 0), 4);
        s.due(x, x.count(12), 13);
        s.due(x, x.count(13), 5);
        s.due(x, x.weigh(0, 50), 54);
        Trade owing = Made.generous(500);
        int answers = Made.answersFor(owing, 0, 1, 600);
        s.due(owing, owing.pass(1), answers);
        s.due(owing, owing.set(3, 0), 500);
        s.due(owing, owing.trader(0, 0), 505);
        s.due(owing, owing.account(0), 100000 - 505);
        s.due(owing, owing.count(9), 5);
    }

    private void setRanges() {
        s.sentence("Promise 6", "`which`: 0 to 3");
        Trade x = new Trade();
        s.refused(x, x.set(-1, 1), UNKNOWN);
        s.refused(x, x.set(4, 1), UNKNOWN);
        s.refused(x, x.set(LEAST, 1), UNKNOWN);
        s.refused(x, x.set(MOST, 1), UNKNOWN);
        s.due(x, x.set(0, 5), 2);
        s.due(x, x.set(3, 5), 50);
        s.sentence("Promise 6", "`value`: in its range");
        for (int which = 0; which < 4; which++) {
            s.refused(x, x.set(which, LEAST_SETTINGS[which] - 1), BAD_VALUE);
            s.refused(x, x.set(which, MOST_SETTINGS[which] + 1), BAD_VALUE);
            s.refused(x, x.set(which, LEAST), BAD_VALUE);
            s.refused(x, x.set(which, MOST), BAD_VALUE);
            x.set(which, LEAST_SETTINGS[which]);
            s.due(x, x.count(14 + which), LEAST_SETTINGS[which]);
            s.due(x, x.set(which, MOST_SETTINGS[which]), LEAST_SETTINGS[which]);
            s.due(x, x.count(14 + which), MOST_SETTINGS[which]);
        }
    }

    private void setTells() {
        s.sentence("Promise 6", "Returns the previous one");
        Trade x = new Trade();
        for (int which = 0; which < 4; which++) {
            s.due(x, x.set(which, 1), FIRST_SETTINGS[which]);
            s.due(x, x.set(which, 7), 1);
            s.due(x, x.set(which, MOST_SETTINGS[which]), 7);
            s.due(x, x.set(which, 8), MOST_SETTINGS[which]);
        }
        // 0 is no error, though it is the previous one.
        s.due(x, x.set(1, 0), 8);
        s.due(x, x.set(1, 5), 0);
        s.due(x, x.count(15), 5);
    }

    private void setErrors() {
        s.sentence("Promise 6", "UNKNOWN; BAD_VALUE");
        Trade x = new Trade();
        s.refused(x, x.set(4, -1), UNKNOWN);
        s.refused(x, x.set(-1, 501), UNKNOWN);
        s.refused(x, x.set(0, 10), BAD_VALUE);
        s.sentence("Promise 6", "NONE if it is so already");
        for (int which = 0; which < 4; which++) {
            s.told(x, x.set(which, FIRST_SETTINGS[which]), NONE);
            s.due(x, x.set(which, 6), FIRST_SETTINGS[which]);
            s.told(x, x.set(which, 6), NONE);
        }
    }

    private void passIsAnAct() {
        s.sentence("Promise 7", "Lets rounds pass. This is an act.");
        Trade x = new Trade();
        x.ask(0, 9, 0);
        x.deliver(1, 0, 0, 50);
        s.acts(x, x.pass(1), 1);
        // A round in which nothing is done is one too.
        s.acts(x, x.pass(2), 0);
        s.due(x, x.count(0), 3);
    }

    private void passRanges() {
        s.sentence("Promise 7", "`rounds`: 1 to 99");
        Trade x = new Trade();
        s.refused(x, x.pass(0), BAD_VALUE);
        s.refused(x, x.pass(100), BAD_VALUE);
        s.refused(x, x.pass(-1), BAD_VALUE);
        s.refused(x, x.pass(LEAST), BAD_VALUE);
        s.refused(x, x.pass(MOST), BAD_VALUE);
        s.due(x, x.pass(1), 0);
        s.due(x, x.count(0), 1);
        s.due(x, x.pass(99), 0);
        s.due(x, x.count(0), 100);
    }

    private void passTells() {
        s.sentence("Promise 7", "Returns how many answers are paid in them");
        Trade x = new Trade();
        s.due(x, x.pass(1), 0);
        x.set(0, 9);
        x.set(2, 9);
        Made.riddles(x, 20);
        for (int riddle = 0; riddle < 20; riddle++) {
            x.deliver(6, riddle, 0, 1);
        }
        x.deliver(5, 0, 0, 1);
        s.due(x, x.pass(1), 9);
        s.due(x, x.pass(2), 11);
        s.due(x, x.pass(99), 0);
        s.due(x, x.count(5), 20);
        s.due(x, x.count(6), 1);
    }

    private void passErrors() {
        s.sentence("Promise 7", "BAD_VALUE; FULL");
        Trade x = Made.roundsLeft(0);
        s.due(x, x.count(0), 9999);
        s.refused(x, x.pass(0), BAD_VALUE);
        s.refused(x, x.pass(100), BAD_VALUE);
        s.refused(x, x.pass(MOST), BAD_VALUE);
        s.refused(x, x.pass(LEAST), BAD_VALUE);
        s.refused(x, x.pass(1), FULL);
        s.refused(x, x.pass(99), FULL);
    }

    private void passIsFull() {
        s.sentence("Promise 7", "FULL if the number of the round would be beyond 9999");
        Trade x = Made.roundsLeft(98);
        Made.riddles(x, 1);
        x.deliver(6, 0, 0, 1);
        s.refused(x, x.pass(99), FULL);
        s.due(x, x.pass(98), 1);
        s.due(x, x.count(0), 9999);
        s.refused(x, x.pass(1), FULL);
        x.undo();
        s.due(x, x.pass(97), 1);
        s.refused(x, x.pass(2), FULL);
        s.due(x, x.pass(1), 0);
        s.due(x, x.count(0), 9999);
        Trade last = Made.roundsLeft(99);
        s.due(last, last.pass(99), 0);
        s.due(last, last.count(0), 9999);
    }
}
