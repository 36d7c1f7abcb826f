import java.util.function.Supplier;

/**
 * All that a run of calls leaves to be told: now, behind each undo(), behind restore() and behind perform(), so that
 * a change of the history, the snapshot or the text shows too. Each part is asked of a new exchange, as one exchange
 * is promised for 512 calls only.
 */
final class Tale {
    private static final int MOST_UNDONE = 5;
    private static final int PARTS = 4;
    private static final int HALF_OF_ANSWERS = 20;

    private Tale() {
    }

    static String of(Supplier<Trade> run, boolean withStop) {
        StringBuilder told = new StringBuilder();
        for (int ahead = 0; ahead <= MOST_UNDONE + 2; ahead++) {
            for (int part = 0; part < PARTS; part++) {
                Trade x = run.get();
                told.append("\nahead ").append(ahead).append(" part ").append(part).append(':');
                goAhead(x, ahead, told);
                tell(x, part, told);
            }
        }
        if (withStop) {
            Trade x = run.get();
            add(told, x.stopped(0));
            add(told, x.stopped(1));
        }
        return told.toString();
    }

    private static void goAhead(Trade x, int ahead, StringBuilder told) {
        if (ahead == MOST_UNDONE + 1) {
            add(told, x.restore());
        } else if (ahead == MOST_UNDONE + 2) {
            add(told, x.perform());
        } else {
            for (int i = 0; i < ahead; i++) {
                add(told, x.undo());
            }
        }
    }

    private static void tell(Trade x, int part, StringBuilder told) {
        switch (part) {
            case 0:
                tellWhole(x, told);
                break;
            case 1:
                tellRiddles(x, told);
                break;
            default:
                tellAnswers(x, (part - 2) * HALF_OF_ANSWERS, told);
                break;
        }
    }

    private static void tellWhole(Trade x, StringBuilder told) {
        for (int what = 0; what < 20; what++) {
            add(told, x.count(what));
        }
        for (int trader = 0; trader < 8; trader++) {
            for (int what = 0; what < 8; what++) {
                add(told, x.trader(trader, what));
            }
            add(told, x.account(trader));
        }
        int waiting = x.count(4);
        for (int rank = 0; rank <= waiting; rank++) {
            add(told, x.waits(rank));
        }
        add(told, x.richest());
        add(told, x.weigh(0, 3));
        add(told, x.weigh(1, 3));
        add(told, x.ifRounds(20, false));
        add(told, x.ifRounds(20, true));
    }

    private static void tellRiddles(Trade x, StringBuilder told) {
        int riddles = x.count(1);
        for (int riddle = 0; riddle <= riddles; riddle++) {
            for (int what = 0; what < 7; what++) {
                add(told, x.riddle(riddle, what));
            }
        }
    }

    private static void tellAnswers(Trade x, int first, StringBuilder told) {
        int answers = x.count(3);
        for (int answer = first; answer < Math.min(answers, first + HALF_OF_ANSWERS); answer++) {
            for (int what = 0; what < 9; what++) {
                add(told, x.answer(answer, what));
            }
            add(told, x.reason(answer));
            add(told, x.settledIn(answer));
        }
    }

    private static void add(StringBuilder told, int number) {
        told.append(' ').append(number);
    }
}
