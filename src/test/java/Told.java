/** All that an exchange tells in its state, as rows of numbers to compare. */
final class Told {
    private Told() {
    }

    static int[] trader(RiddleTrade x, int trader) {
        int[] told = new int[8];
        for (int what = 0; what < told.length; what++) {
            told[what] = x.trader(trader, what);
        }
        return told;
    }

    static int[] riddle(RiddleTrade x, int riddle) {
        int[] told = new int[7];
        for (int what = 0; what < told.length; what++) {
            told[what] = x.riddle(riddle, what);
        }
        return told;
    }

    static int[] answer(RiddleTrade x, int answer) {
        int[] told = new int[9];
        for (int what = 0; what < told.length; what++) {
            told[what] = x.answer(answer, what);
        }
        return told;
    }

    static int[] counts(RiddleTrade x) {
        int[] told = new int[20];
        for (int what = 0; what < told.length; what++) {
            told[what] = x.count(what);
        }
        return told;
    }

    /** Everything: two exchanges that tell the same here differ in nothing but the stop and the snapshot. */
    static String all(RiddleTrade x) {
        StringBuilder told = new StringBuilder();
        add(told, "counts", counts(x));
        for (int trader = 0; trader < 8; trader++) {
            add(told, "\ntrader " + trader, trader(x, trader));
            told.append(" account ").append(x.account(trader));
        }
        for (int riddle = 0; riddle < x.count(1); riddle++) {
            add(told, "\nriddle " + riddle, riddle(x, riddle));
        }
        for (int answer = 0; answer < x.count(3); answer++) {
            add(told, "\nanswer " + answer, answer(x, answer));
            told.append(" reason ").append(x.reason(answer));
        }
        told.append("\nrow");
        for (int rank = 0; rank < x.count(4); rank++) {
            told.append(' ').append(x.waits(rank));
        }
        told.append("\nrichest ").append(x.richest());
        told.append("\nstopped ").append(x.stopped(0)).append(' ').append(x.stopped(1));
        return told.toString();
    }

    static void type(RiddleTrade x, String text) {
        x.clearText();
        for (int i = 0; i < text.length(); i++) {
            x.type(text.charAt(i));
        }
    }

    private static void add(StringBuilder told, String name, int[] numbers) {
        told.append(name);
        for (int number : numbers) {
            told.append(' ').append(number);
        }
    }
}
