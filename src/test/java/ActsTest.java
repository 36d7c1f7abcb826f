/** Promises 1 to 7: a new object, ask, withdraw, deliver, adjust, set, pass. */
public final class ActsTest {
    private static final int UNKNOWN = RiddleTrade.UNKNOWN;
    private static final int BAD_VALUE = RiddleTrade.BAD_VALUE;
    private static final int FULL = RiddleTrade.FULL;
    private static final int NOT_POSSIBLE = RiddleTrade.NOT_POSSIBLE;
    private static final int NONE = RiddleTrade.NONE;
    private static final Due CHECK = new Due();

    public static void main(String[] args) {
        newObject();
        ask();
        askIsFull();
        withdraw();
        deliver();
        deliverIsFull();
        adjust();
        set();
        setLeavesDriftsAndDebts();
        passChecks();
        passTakesAsManyAsToldFromTheHead();
        refusedAnswersAreNotWeighed();
        weighingsDrift();
        aWeighingTellsNoLessThanZero();
        doubts();
        payments();
        whoCannotPay();
        fees();
        feesBeyondTheGreatestDebt();
        actsBehindAnOutlook();
        CHECK.end();
    }

    private static void newObject() {
        RiddleTrade x = new RiddleTrade();
        CHECK.dueRow("new count", Told.counts(x),
            0, 0, 0, 0, 0, 0, 0, 0, 0, 0, 0, 0, 9, 9, 2, 4, 3, 50, 0, 0);
        for (int trader = 0; trader < 8; trader++) {
            CHECK.dueRow("new trader " + trader, Told.trader(x, trader), 0, 100, 0, 0, 0, 0, 0, 0);
            CHECK.due("new account", x.account(trader), 100100);
        }
        CHECK.due("new riddle", x.riddle(0, 0), UNKNOWN);
        CHECK.due("new answer", x.answer(0, 0), UNKNOWN);
        CHECK.due("new waits", x.waits(0), NONE);
        CHECK.due("new undo", x.undo(), NONE);
        CHECK.due("new restore", x.restore(), NONE);
        CHECK.due("new stopped(0)", x.stopped(0), NONE);
        CHECK.due("new stopped(1)", x.stopped(1), NONE);
        CHECK.due("new richest", x.richest(), 0);
        CHECK.due("new ifRounds", x.ifRounds(99, false), 0);
    }

    private static void ask() {
        RiddleTrade x = new RiddleTrade();
        String before = Told.all(x);
        CHECK.due("ask(-1, 1, 0)", x.ask(-1, 1, 0), UNKNOWN);
        CHECK.due("ask(8, 0, 100)", x.ask(8, 0, 100), UNKNOWN);
        CHECK.due("ask(0, 0, 0)", x.ask(0, 0, 0), BAD_VALUE);
        CHECK.due("ask(0, 51, 0)", x.ask(0, 51, 0), BAD_VALUE);
        CHECK.due("ask(0, 1, -1)", x.ask(0, 1, -1), BAD_VALUE);
        CHECK.due("ask(0, 1, 100)", x.ask(0, 1, 100), BAD_VALUE);
        same("errors of ask", x, before);
        CHECK.due("ask(0, 1, 0)", x.ask(0, 1, 0), 0);
        CHECK.due("ask(7, 50, 99)", x.ask(7, 50, 99), 1);
        CHECK.dueRow("riddle 0", Told.riddle(x, 0), 0, 1, 0, 0, 0, 0, NONE);
        CHECK.dueRow("riddle 1", Told.riddle(x, 1), 7, 50, 99, 0, 0, 0, NONE);
        CHECK.due("count(1)", x.count(1), 2);
        CHECK.due("count(18)", x.count(18), 2);
        // A price is no more than a promise: asking costs nothing.
        CHECK.due("trader(7, 1)", x.trader(7, 1), 100);
    }

    private static void askIsFull() {
        RiddleTrade x = new RiddleTrade();
        for (int riddle = 0; riddle < 20; riddle++) {
            CHECK.due("ask", x.ask(riddle % 8, 1, 0), riddle);
        }
        x.withdraw(19);
        String before = Told.all(x);
        CHECK.due("ask(8, ..) when full", x.ask(8, 1, 0), UNKNOWN);
        CHECK.due("ask(0, 51, 0) when full", x.ask(0, 51, 0), BAD_VALUE);
        CHECK.due("ask(0, 1, 0) when full", x.ask(0, 1, 0), FULL);
        same("ask when full", x, before);
    }

    private static void withdraw() {
        RiddleTrade x = new RiddleTrade();
        x.ask(0, 10, 1);
        x.ask(0, 10, 1);
        x.deliver(1, 0, 1, 10);
        x.deliver(2, 1, 1, 10);
        x.deliver(3, 0, 2, 10);
        String before = Told.all(x);
        CHECK.due("withdraw(-1)", x.withdraw(-1), UNKNOWN);
        CHECK.due("withdraw(2)", x.withdraw(2), UNKNOWN);
        CHECK.due("withdraw(20)", x.withdraw(20), UNKNOWN);
        same("withdraw unknown", x, before);
        CHECK.due("withdraw(0)", x.withdraw(0), 2);
        CHECK.due("riddle(0, 3)", x.riddle(0, 3), 2);
        CHECK.due("riddle(0, 5)", x.riddle(0, 5), 2);
        CHECK.due("count(2)", x.count(2), 1);
        CHECK.due("count(4)", x.count(4), 3);
        before = Told.all(x);
        CHECK.due("withdraw(0) again", x.withdraw(0), NOT_POSSIBLE);
        same("withdraw again", x, before);
        CHECK.due("pass(1)", x.pass(1), 1);
        CHECK.due("withdraw(1), paid", x.withdraw(1), NOT_POSSIBLE);
        x.ask(4, 5, 5);
        CHECK.due("withdraw(2) without answers", x.withdraw(2), 0);
    }

    private static void deliver() {
        RiddleTrade x = new RiddleTrade();
        x.ask(0, 10, 5);
        x.ask(1, 10, 5);
        String before = Told.all(x);
        CHECK.due("deliver(8, 0, 0, 1)", x.deliver(8, 0, 0, 1), UNKNOWN);
        CHECK.due("deliver(-1, 0, 0, 1)", x.deliver(-1, 0, 0, 1), UNKNOWN);
        CHECK.due("deliver(1, 2, 100, 0)", x.deliver(1, 2, 100, 0), UNKNOWN);
        CHECK.due("deliver(1, -1, 0, 1)", x.deliver(1, -1, 0, 1), UNKNOWN);
        CHECK.due("deliver(0, 0, -1, 1)", x.deliver(0, 0, -1, 1), BAD_VALUE);
        CHECK.due("deliver(0, 0, 100, 1)", x.deliver(0, 0, 100, 1), BAD_VALUE);
        CHECK.due("deliver(0, 0, 0, 0)", x.deliver(0, 0, 0, 0), BAD_VALUE);
        CHECK.due("deliver(0, 0, 0, 100)", x.deliver(0, 0, 0, 100), BAD_VALUE);
        CHECK.due("deliver(0, 0, 5, 1)", x.deliver(0, 0, 5, 1), NOT_POSSIBLE);
        same("errors of deliver", x, before);
        CHECK.due("deliver(1, 0, 99, 1)", x.deliver(1, 0, 99, 1), 0);
        CHECK.due("deliver(0, 1, 5, 99)", x.deliver(0, 1, 5, 99), 1);
        CHECK.dueRow("answer 0", Told.answer(x, 0), 1, 0, 99, 1, 0, 0, 0, 0, 0);
        CHECK.dueRow("answer 1", Told.answer(x, 1), 0, 1, 5, 99, 0, 0, 0, 0, 1);
        x.withdraw(0);
        CHECK.due("deliver(1, 0, 5, 1), withdrawn", x.deliver(1, 0, 5, 1), NOT_POSSIBLE);
        x.pass(1);
        CHECK.due("riddle(1, 3)", x.riddle(1, 3), 1);
        CHECK.due("deliver(2, 1, 5, 1), paid", x.deliver(2, 1, 5, 1), NOT_POSSIBLE);
    }

    private static void deliverIsFull() {
        RiddleTrade x = new RiddleTrade();
        x.ask(0, 1, 0);
        x.ask(0, 1, 0);
        for (int answer = 0; answer < 40; answer++) {
            CHECK.due("deliver", x.deliver(1 + answer % 7, 0, 1, 1), answer);
        }
        CHECK.due("waits(39)", x.waits(39), 39);
        CHECK.due("waits(40)", x.waits(40), NONE);
        x.withdraw(1);
        String before = Told.all(x);
        CHECK.due("deliver to the withdrawn when full", x.deliver(1, 1, 1, 1), NOT_POSSIBLE);
        CHECK.due("deliver of the asker when full", x.deliver(0, 0, 1, 1), NOT_POSSIBLE);
        CHECK.due("deliver when full", x.deliver(1, 0, 1, 1), FULL);
        same("deliver when full", x, before);
        x.pass(99);
        CHECK.due("count(6)", x.count(6), 40);
        CHECK.due("deliver when all are refused", x.deliver(1, 0, 0, 1), FULL);
    }

    private static void adjust() {
        RiddleTrade x = new RiddleTrade();
        String before = Told.all(x);
        CHECK.due("adjust of a new one", x.adjust(), NONE);
        same("adjust without drifts", x, before);
        x.set(0, 9);
        x.ask(0, 1, 0);
        x.ask(0, 1, 0);
        x.deliver(1, 0, 0, 50);
        x.deliver(1, 1, 0, 50);
        x.pass(1);
        CHECK.due("count(12)", x.count(12), 11);
        CHECK.due("count(13)", x.count(13), 7);
        CHECK.due("adjust()", x.adjust(), 4);
        CHECK.due("count(12) then", x.count(12), 9);
        CHECK.due("count(13) then", x.count(13), 9);
        CHECK.due("count(8) then", x.count(8), 4);
        CHECK.due("adjust() again", x.adjust(), NONE);
    }

    private static void set() {
        int[] least = {0, 0, 1, 0};
        int[] most = {9, 9, 9, 500};
        int[] first = {2, 4, 3, 50};
        RiddleTrade x = new RiddleTrade();
        String before = Told.all(x);
        CHECK.due("set(-1, 1)", x.set(-1, 1), UNKNOWN);
        CHECK.due("set(4, -1)", x.set(4, -1), UNKNOWN);
        for (int which = 0; which < 4; which++) {
            CHECK.due("set too low", x.set(which, least[which] - 1), BAD_VALUE);
            CHECK.due("set too high", x.set(which, most[which] + 1), BAD_VALUE);
            CHECK.due("set as it is", x.set(which, first[which]), NONE);
        }
        same("errors of set", x, before);
        for (int which = 0; which < 4; which++) {
            CHECK.due("set least", x.set(which, least[which]), first[which]);
            CHECK.due("count least", x.count(14 + which), least[which]);
            CHECK.due("set most", x.set(which, most[which]), least[which]);
            CHECK.due("count most", x.count(14 + which), most[which]);
            CHECK.due("set most again", x.set(which, most[which]), NONE);
        }
    }

    private static void setLeavesDriftsAndDebts() {
        RiddleTrade x = withPayments(160);
        x.set(1, 0);
        x.set(3, 0);
        CHECK.due("count(12) with the setting 1 lower", x.count(12), 13);
        CHECK.due("count(13) with the setting 1 lower", x.count(13), 5);
        CHECK.due("trader(0, 0) with the setting 3 lower", x.trader(0, 0), 63);
        // The next drift would be beyond 0, so it comes to 0, which has no sign.
        x.ask(1, 1, 0);
        x.deliver(2, 4, 0, 50);
        CHECK.due("pass(1)", x.pass(1), 1);
        CHECK.due("count(12) behind a weighing", x.count(12), 9);
        CHECK.due("count(13) behind a weighing", x.count(13), 9);
    }

    private static void passChecks() {
        RiddleTrade x = new RiddleTrade();
        String before = Told.all(x);
        CHECK.due("pass(0)", x.pass(0), BAD_VALUE);
        CHECK.due("pass(100)", x.pass(100), BAD_VALUE);
        CHECK.due("pass(-1)", x.pass(-1), BAD_VALUE);
        same("errors of pass", x, before);
        for (int i = 0; i < 100; i++) {
            CHECK.due("pass(99)", x.pass(99), 0);
        }
        CHECK.due("pass(98)", x.pass(98), 0);
        CHECK.due("count(0)", x.count(0), 9998);
        before = Told.all(x);
        CHECK.due("pass(2) at 9998", x.pass(2), FULL);
        CHECK.due("pass(100) at 9998", x.pass(100), BAD_VALUE);
        same("pass when full", x, before);
        CHECK.due("pass(1) at 9998", x.pass(1), 0);
        CHECK.due("count(0) then", x.count(0), 9999);
        CHECK.due("pass(1) at 9999", x.pass(1), FULL);
    }

    private static void passTakesAsManyAsToldFromTheHead() {
        RiddleTrade x = new RiddleTrade();
        x.set(0, 0);
        x.set(2, 2);
        x.set(1, 9);
        for (int riddle = 0; riddle < 3; riddle++) {
            x.ask(0, 1, 0);
            x.deliver(1, riddle, 0, 50);
        }
        // The first is paid; the second is doubted, as the scales differ then.
        CHECK.due("pass(1)", x.pass(1), 1);
        CHECK.due("waits(0)", x.waits(0), 2);
        CHECK.due("waits(1)", x.waits(1), 1);
        CHECK.due("waits(2)", x.waits(2), NONE);
        x.set(2, 9);
        // Both are taken once, though a doubted one stands in the row again.
        CHECK.due("pass(1) again", x.pass(1), 0);
        CHECK.due("answer(2, 6)", x.answer(2, 6), 1);
        CHECK.due("answer(1, 6)", x.answer(1, 6), 2);
        CHECK.due("waits(0) then", x.waits(0), 2);
        CHECK.due("waits(1) then", x.waits(1), 1);
        CHECK.due("count(0)", x.count(0), 2);
    }

    private static void refusedAnswersAreNotWeighed() {
        RiddleTrade x = new RiddleTrade();
        x.ask(0, 1, 7);
        x.ask(0, 1, 7);
        x.deliver(1, 0, 6, 50);
        x.deliver(2, 1, 7, 50);
        x.deliver(3, 1, 6, 50);
        x.withdraw(1);
        CHECK.due("pass(1)", x.pass(1), 0);
        CHECK.due("answer(0, 5)", x.answer(0, 5), 2);
        CHECK.due("answer(1, 5)", x.answer(1, 5), 1);
        // The riddle is looked at ahead of the seal.
        CHECK.due("answer(2, 5)", x.answer(2, 5), 1);
        CHECK.due("answer(2, 4)", x.answer(2, 4), 2);
        CHECK.due("count(8)", x.count(8), 0);
        CHECK.due("count(12)", x.count(12), 9);
        CHECK.due("count(4)", x.count(4), 0);
    }

    private static void weighingsDrift() {
        RiddleTrade x = new RiddleTrade();
        x.set(0, 9);
        x.set(2, 1);
        int[] first = {1, 2, 3, 4, -4, -3, -2};
        for (int riddle = 0; riddle < first.length; riddle++) {
            x.ask(0, 1, 0);
            x.deliver(1, riddle, 0, 50);
            CHECK.due("pass(1)", x.pass(1), 1);
            CHECK.due("count(12)", x.count(12), 9 + first[riddle]);
            CHECK.due("count(13)", x.count(13), 9 - first[riddle]);
            CHECK.due("count(8)", x.count(8), 2 * riddle + 2);
        }
        // A drift beyond a lower setting comes to it from either side.
        x.set(1, 0);
        x.ask(0, 1, 0);
        x.deliver(1, first.length, 0, 50);
        x.pass(1);
        CHECK.due("count(12) at 0", x.count(12), 9);
        lowerDrift(-4, 1, 1, -1);
        lowerDrift(4, 2, -2, 2);
    }

    /** Brings the drifts to one number and its opposite, lowers the setting 1, and weighs once. */
    private static void lowerDrift(int drift, int setting, int first, int second) {
        RiddleTrade x = new RiddleTrade();
        x.set(0, 9);
        x.set(2, 1);
        int riddle = 0;
        while (x.count(12) != 9 + drift && riddle < 15) {
            x.ask(0, 1, 0);
            x.deliver(1, riddle, 0, 50);
            x.pass(1);
            riddle++;
        }
        x.set(1, setting);
        CHECK.due("count(12) with a lower setting", x.count(12), 9 + drift);
        x.ask(0, 1, 0);
        x.deliver(1, riddle, 0, 50);
        x.pass(1);
        CHECK.due("count(12) from beyond", x.count(12), 9 + first);
        CHECK.due("count(13) from beyond", x.count(13), 9 + second);
    }

    private static void aWeighingTellsNoLessThanZero() {
        RiddleTrade x = new RiddleTrade();
        x.set(0, 9);
        x.set(2, 1);
        for (int riddle = 0; riddle < 4; riddle++) {
            x.ask(0, 1, 0);
            x.deliver(1, riddle, 0, 50);
            x.pass(1);
        }
        CHECK.due("weigh(1, 1)", x.weigh(1, 1), 0);
        CHECK.due("weigh(0, 1)", x.weigh(0, 1), 5);
        x.set(0, 4);
        x.ask(0, 1, 0);
        x.deliver(1, 4, 0, 1);
        CHECK.due("reason: 5 and 0 differ by more than 4", x.reason(4), 3);
        x.set(0, 5);
        CHECK.due("reason: 5 and 0 do not differ by more than 5", x.reason(4), 0);
        CHECK.due("pass(1)", x.pass(1), 1);
        CHECK.due("a tenth of 5 and 0", x.answer(4, 7), 1);
    }

    private static void doubts() {
        RiddleTrade x = new RiddleTrade();
        x.set(1, 9);
        x.set(2, 1);
        x.set(0, 1);
        x.ask(0, 1, 0);
        x.ask(0, 1, 0);
        x.deliver(1, 0, 0, 50);
        x.deliver(2, 1, 0, 50);
        CHECK.due("the first is paid", x.pass(1), 1);
        // The scales differ by 2 now, then by 4 and by 6.
        for (int doubts = 1; doubts <= 3; doubts++) {
            CHECK.due("reason(1)", x.reason(1), 3);
            CHECK.due("pass(1)", x.pass(1), 0);
            CHECK.due("answer(1, 6)", x.answer(1, 6), doubts);
            CHECK.due("answer(1, 4)", x.answer(1, 4), doubts == 3 ? 2 : 0);
            CHECK.due("answer(1, 5)", x.answer(1, 5), doubts == 3 ? 3 : 0);
            CHECK.due("count(4)", x.count(4), doubts == 3 ? 0 : 1);
            CHECK.due("count(7)", x.count(7), doubts);
            CHECK.due("count(8)", x.count(8), 2 + 2 * doubts);
        }
        CHECK.due("riddle(1, 3) stays open", x.riddle(1, 3), 0);
    }

    private static void payments() {
        RiddleTrade x = new RiddleTrade();
        x.ask(0, 7, 3);
        x.deliver(1, 0, 3, 34);
        CHECK.due("pass(1)", x.pass(1), 1);
        // 34 and 34 are 68, of which a tenth is 6 (not 3 and 3, and not 7).
        CHECK.dueRow("answer 0", Told.answer(x, 0), 1, 0, 3, 34, 1, 0, 0, 13, NONE);
        CHECK.dueRow("riddle 0", Told.riddle(x, 0), 0, 7, 3, 1, 1, 0, 0);
        CHECK.dueRow("trader 0", Told.trader(x, 0), 0, 87, 1, 1, 0, 0, 0, 0);
        CHECK.dueRow("trader 1", Told.trader(x, 1), 0, 113, 0, 0, 1, 1, 0, 0);
        x.ask(1, 7, 3);
        x.deliver(0, 1, 3, 9);
        x.pass(1);
        // 10 and 8 are 18; each for itself they would be 1 and 0.
        CHECK.due("answer(1, 7)", x.answer(1, 7), 8);
        x.ask(1, 7, 3);
        x.deliver(0, 2, 3, 5);
        x.set(0, 9);
        x.pass(1);
        // 7 and 3 are 10.
        CHECK.due("answer(2, 7)", x.answer(2, 7), 8);
        CHECK.due("count(11)", x.count(11), 29);
        CHECK.due("count(5)", x.count(5), 3);
    }

    private static void whoCannotPay() {
        RiddleTrade x = new RiddleTrade();
        x.set(0, 9);
        x.set(3, 0);
        x.set(2, 1);
        x.ask(0, 50, 0);
        x.deliver(1, 0, 0, 50);
        x.pass(1);
        x.ask(0, 36, 0);
        x.ask(0, 30, 0);
        x.deliver(1, 1, 0, 25);
        x.deliver(2, 2, 0, 50);
        CHECK.due("trader(0, 1)", x.trader(0, 1), 40);
        CHECK.due("reason: 41 of 40", x.reason(1), 4);
        CHECK.due("reason: 40 of 40", x.reason(2), 0);
        CHECK.due("pass(1)", x.pass(1), 0);
        CHECK.due("count(8)", x.count(8), 4);
        CHECK.due("answer(1, 6), no doubt", x.answer(1, 6), 0);
        CHECK.due("waits(0)", x.waits(0), 2);
        CHECK.due("waits(1)", x.waits(1), 1);
        CHECK.due("pass(1) again", x.pass(1), 1);
        CHECK.due("trader(0, 1) then", x.trader(0, 1), 0);
        CHECK.due("trader(0, 0) then", x.trader(0, 0), 0);
        x.set(3, 41);
        CHECK.due("reason with credit", x.reason(1), 0);
        x.set(3, 40);
        CHECK.due("reason with less credit", x.reason(1), 4);
    }

    private static void fees() {
        feeOf(0, 0);
        feeOf(1, 0);
        feeOf(19, 0);
        feeOf(20, 1);
        feeOf(39, 1);
        feeOf(40, 2);
        feeOf(99, 4);
        feeOf(100, 5);
        feeOf(139, 5);
        RiddleTrade x = withPayments(160);
        x.ask(1, 50, 0);
        // Who asked but paid nothing owes nothing.
        CHECK.due("trader(0, 0)", x.trader(0, 0), 63);
        CHECK.due("pass(2)", x.pass(2), 0);
        CHECK.due("trader(0, 0) then", x.trader(0, 0), 69);
        CHECK.due("trader(0, 7)", x.trader(0, 7), 9);
        CHECK.due("trader(1, 7)", x.trader(1, 7), 0);
        CHECK.due("count(10)", x.count(10), 1);
    }

    /** The fee comes behind the payments of the same round. */
    private static void feeOf(int debt, int fee) {
        RiddleTrade x = withPayments(100 + debt);
        CHECK.due("trader(0, 0) of " + debt, x.trader(0, 0), debt + fee);
        CHECK.due("trader(0, 1) of " + debt, x.trader(0, 1), 0);
        CHECK.due("trader(0, 7) of " + debt, x.trader(0, 7), fee);
        CHECK.due("trader(1, 1) of " + debt, x.trader(1, 1), 200 + debt);
        CHECK.due("count(9) of " + debt, x.count(9), fee);
        CHECK.due("count(10) of " + debt, x.count(10), debt > 0 ? 1 : 0);
        CHECK.due("account of " + debt, x.account(0), 100000 - debt - fee);
    }

    private static void feesBeyondTheGreatestDebt() {
        RiddleTrade x = withPayments(220);
        x.set(3, 0);
        CHECK.due("trader(0, 0)", x.trader(0, 0), 125);
        CHECK.due("pass(99)", x.pass(99), 0);
        CHECK.due("trader(0, 0) is more than 500", x.trader(0, 0), 125 + 99 * 5);
        CHECK.due("account(0)", x.account(0), 100000 - 125 - 99 * 5);
    }

    /** A round in which trader 0 pays so much (8 to 276) to trader 1, for the riddles 0 to 3. */
    private static RiddleTrade withPayments(int sum) {
        RiddleTrade x = new RiddleTrade();
        x.set(0, 9);
        x.set(2, 4);
        x.set(3, 500);
        int left = sum;
        for (int riddle = 0; riddle < 4; riddle++) {
            int payment = left / (4 - riddle);
            left -= payment;
            int byWeight = Math.max(0, payment - 50);
            x.ask(0, payment - byWeight, 0);
            x.deliver(1, riddle, 0, 5 * byWeight + 4);
        }
        CHECK.due("pass(1) of four", x.pass(1), 4);
        CHECK.due("count(11) of four", x.count(11), sum);
        return x;
    }

    /** An outlook ahead of an act leaves nothing in it. */
    private static void actsBehindAnOutlook() {
        RiddleTrade x = new RiddleTrade();
        x.ask(0, 9, 1);
        x.ask(0, 9, 1);
        x.deliver(1, 0, 1, 50);
        CHECK.due("ifRounds(5, false)", x.ifRounds(5, false), 1);
        CHECK.due("withdraw(0) behind it", x.withdraw(0), 1);
        CHECK.due("count(0)", x.count(0), 0);
        CHECK.due("count(5)", x.count(5), 0);
        CHECK.due("trader(0, 1)", x.trader(0, 1), 100);
    }

    private static void same(String call, RiddleTrade x, String before) {
        boolean same = Told.all(x).equals(before);
        CHECK.due(call + " changes nothing", same ? 1 : 0, 1);
    }
}
