import java.util.ArrayDeque;
import java.util.ArrayList;
import java.util.Deque;
import java.util.List;
import java.util.regex.Matcher;
import java.util.regex.Pattern;

/** The document once more, told another way: objects, running tallies, and a text that is matched. */
final class Model {
    private static final int UNKNOWN = -1;
    private static final int BAD_VALUE = -2;
    private static final int FULL = -3;
    private static final int NOT_POSSIBLE = -4;
    private static final int NONE = -5;

    private static final String TRADER = "[0-7]";
    private static final String PRICE = "(?:[1-9]|[1-4][0-9]|50)";
    private static final String SEAL = "(?:[0-9]|[1-9][0-9])";
    private static final String NUMBER = "(?:[0-9]|1[0-9])";
    private static final String MANY = "(?:[1-9]|[1-9][0-9])";
    private static final String THING = "(?:r" + TRADER + ":" + PRICE + "=" + SEAL + "|a" + TRADER + ":" + NUMBER
        + "=" + SEAL + "\\*" + MANY + "|\\." + MANY + ")";
    private static final Pattern OFFERS = Pattern.compile(THING + "(?:;" + THING + ")*");

    private static final class Trader {
        int coins = 100;
        int asked;
        int askedPaid;
        int delivered;
        int deliveredPaid;
        int deliveredRefused;
        int fees;
    }

    private static final class Riddle {
        int asker;
        int price;
        int seal;
        int state;
        int answers;
        int waiting;
        int paidAnswer = NONE;
    }

    private static final class Answer {
        int giver;
        int riddle;
        int seal;
        int weight;
        int state;
        int reason;
        int doubts;
        int payment;
    }

    private static final class State {
        final List<Trader> traders = new ArrayList<>();
        final List<Riddle> riddles = new ArrayList<>();
        final List<Answer> answers = new ArrayList<>();
        final List<Integer> row = new ArrayList<>();
        int[] settings = {2, 4, 3, 50};
        int[] drifts = {0, 0};
        int round;
        int house;
        int doubts;
        int weighings;
        int payments;

        State copy() {
            State copy = new State();
            for (Trader t : traders) {
                Trader c = new Trader();
                c.coins = t.coins;
                c.asked = t.asked;
                c.askedPaid = t.askedPaid;
                c.delivered = t.delivered;
                c.deliveredPaid = t.deliveredPaid;
                c.deliveredRefused = t.deliveredRefused;
                c.fees = t.fees;
                copy.traders.add(c);
            }
            for (Riddle r : riddles) {
                Riddle c = new Riddle();
                c.asker = r.asker;
                c.price = r.price;
                c.seal = r.seal;
                c.state = r.state;
                c.answers = r.answers;
                c.waiting = r.waiting;
                c.paidAnswer = r.paidAnswer;
                copy.riddles.add(c);
            }
            for (Answer a : answers) {
                Answer c = new Answer();
                c.giver = a.giver;
                c.riddle = a.riddle;
                c.seal = a.seal;
                c.weight = a.weight;
                c.state = a.state;
                c.reason = a.reason;
                c.doubts = a.doubts;
                c.payment = a.payment;
                copy.answers.add(c);
            }
            copy.row.addAll(row);
            copy.settings = settings.clone();
            copy.drifts = drifts.clone();
            copy.round = round;
            copy.house = house;
            copy.doubts = doubts;
            copy.weighings = weighings;
            copy.payments = payments;
            return copy;
        }

        int weighing(int scale, int weight) {
            return Math.max(weight + drifts[scale], 0);
        }

        int weighNow(int scale, int weight) {
            int told = weighing(scale, weight);
            int would = drifts[scale] + (scale == 0 ? 1 : -1);
            if (would > settings[1]) {
                would = -settings[1];
            } else if (would < -settings[1]) {
                would = settings[1];
            }
            drifts[scale] = would;
            weighings++;
            return told;
        }

        void settle(int number, int state, int reason) {
            Answer a = answers.get(number);
            a.state = state;
            a.reason = reason;
            riddles.get(a.riddle).waiting--;
            if (state == 2) {
                traders.get(a.giver).deliveredRefused++;
            } else {
                traders.get(a.giver).deliveredPaid++;
            }
        }

        int oneRound() {
            int paid = 0;
            List<Integer> head = new ArrayList<>(row.subList(0, Math.min(settings[2], row.size())));
            row.subList(0, head.size()).clear();
            for (int number : head) {
                Answer a = answers.get(number);
                Riddle r = riddles.get(a.riddle);
                if (r.state != 0) {
                    settle(number, 2, 1);
                    continue;
                }
                if (r.seal != a.seal) {
                    settle(number, 2, 2);
                    continue;
                }
                int first = weighNow(0, a.weight);
                int second = weighNow(1, a.weight);
                if (first - second > settings[0] || second - first > settings[0]) {
                    a.doubts++;
                    doubts++;
                    if (a.doubts == 3) {
                        settle(number, 2, 3);
                    } else {
                        row.add(number);
                    }
                    continue;
                }
                int payment = r.price + (first + second) / 10;
                Trader asker = traders.get(r.asker);
                if (asker.coins - payment < -settings[3]) {
                    row.add(number);
                    continue;
                }
                asker.coins -= payment;
                asker.askedPaid++;
                traders.get(a.giver).coins += payment;
                settle(number, 1, 0);
                a.payment = payment;
                payments += payment;
                r.state = 1;
                r.paidAnswer = number;
                paid++;
            }
            for (Trader t : traders) {
                if (t.coins < 0) {
                    int fee = Math.min(5, -t.coins / 20);
                    t.coins -= fee;
                    t.fees += fee;
                    house += fee;
                }
            }
            round++;
            return paid;
        }
    }

    private State now = new State();
    private State snapshot;
    private final Deque<State> history = new ArrayDeque<>();
    private final StringBuilder text = new StringBuilder();
    private int stopNumber = NONE;
    private int stopError = NONE;

    Model() {
        for (int i = 0; i < 8; i++) {
            now.traders.add(new Trader());
        }
    }

    private int act(State before, int result) {
        if (result >= 0) {
            history.addLast(before);
            if (history.size() > 4) {
                history.removeFirst();
            }
        }
        return result;
    }

    private static boolean in(int number, int least, int most) {
        return number >= least && number <= most;
    }

    int ask(int trader, int price, int seal) {
        State before = now.copy();
        return act(before, doAsk(trader, price, seal));
    }

    private int doAsk(int trader, int price, int seal) {
        if (!in(trader, 0, 7)) {
            return UNKNOWN;
        }
        if (!in(price, 1, 50) || !in(seal, 0, 99)) {
            return BAD_VALUE;
        }
        if (now.riddles.size() == 20) {
            return FULL;
        }
        Riddle r = new Riddle();
        r.asker = trader;
        r.price = price;
        r.seal = seal;
        now.riddles.add(r);
        now.traders.get(trader).asked++;
        return now.riddles.size() - 1;
    }

    int withdraw(int riddle) {
        if (!in(riddle, 0, now.riddles.size() - 1)) {
            return UNKNOWN;
        }
        if (now.riddles.get(riddle).state != 0) {
            return NOT_POSSIBLE;
        }
        State before = now.copy();
        now.riddles.get(riddle).state = 2;
        return act(before, now.riddles.get(riddle).waiting);
    }

    int deliver(int trader, int riddle, int seal, int weight) {
        State before = now.copy();
        return act(before, doDeliver(trader, riddle, seal, weight));
    }

    private int doDeliver(int trader, int riddle, int seal, int weight) {
        if (!in(trader, 0, 7) || !in(riddle, 0, now.riddles.size() - 1)) {
            return UNKNOWN;
        }
        if (!in(seal, 0, 99) || !in(weight, 1, 99)) {
            return BAD_VALUE;
        }
        Riddle r = now.riddles.get(riddle);
        if (r.state != 0 || r.asker == trader) {
            return NOT_POSSIBLE;
        }
        if (now.answers.size() == 40) {
            return FULL;
        }
        Answer a = new Answer();
        a.giver = trader;
        a.riddle = riddle;
        a.seal = seal;
        a.weight = weight;
        now.answers.add(a);
        now.row.add(now.answers.size() - 1);
        now.traders.get(trader).delivered++;
        r.answers++;
        r.waiting++;
        return now.answers.size() - 1;
    }

    int adjust() {
        int sum = Math.abs(now.drifts[0]) + Math.abs(now.drifts[1]);
        if (sum == 0) {
            return NONE;
        }
        State before = now.copy();
        now.drifts = new int[2];
        return act(before, sum);
    }

    int set(int which, int value) {
        if (!in(which, 0, 3)) {
            return UNKNOWN;
        }
        if (!in(value, which == 2 ? 1 : 0, which == 3 ? 500 : 9)) {
            return BAD_VALUE;
        }
        int previous = now.settings[which];
        if (previous == value) {
            return NONE;
        }
        State before = now.copy();
        now.settings[which] = value;
        return act(before, previous);
    }

    int pass(int rounds) {
        State before = now.copy();
        return act(before, doPass(rounds));
    }

    private int doPass(int rounds) {
        if (!in(rounds, 1, 99)) {
            return BAD_VALUE;
        }
        if (now.round > 9999 - rounds) {
            return FULL;
        }
        int paid = 0;
        for (int i = 0; i < rounds; i++) {
            paid += now.oneRound();
        }
        return paid;
    }

    int type(char character) {
        if (text.length() == 60) {
            return FULL;
        }
        text.append(character);
        return text.length();
    }

    int clearText() {
        int length = text.length();
        text.setLength(0);
        return length;
    }

    /** The shortest beginning that no characters behind it could mend ends with the fault. */
    private int fault() {
        for (int length = 1; length <= text.length(); length++) {
            Matcher matcher = OFFERS.matcher(text.substring(0, length));
            if (!matcher.matches() && !matcher.hitEnd()) {
                return length - 1;
            }
        }
        return OFFERS.matcher(text).matches() ? -1 : text.length();
    }

    int perform() {
        int fault = fault();
        if (fault >= 0) {
            return -100 - fault;
        }
        State before = now.copy();
        String[] things = text.toString().split(";");
        for (int i = 0; i < things.length; i++) {
            String[] numbers = things[i].substring(1).split("[:=*]");
            int[] n = new int[4];
            for (int k = 0; k < numbers.length; k++) {
                n[k] = Integer.parseInt(numbers[k]);
            }
            char kind = things[i].charAt(0);
            int result = kind == 'r' ? doAsk(n[0], n[1], n[2])
                : kind == 'a' ? doDeliver(n[0], n[1], n[2], n[3]) : doPass(n[0]);
            if (result < 0) {
                now = before;
                stopNumber = i;
                stopError = result;
                return NOT_POSSIBLE;
            }
        }
        return act(before, things.length);
    }

    int stopped(int what) {
        return what == 0 ? stopNumber : what == 1 ? stopError : BAD_VALUE;
    }

    int undo() {
        if (history.isEmpty()) {
            return NONE;
        }
        now = history.removeLast();
        return history.size();
    }

    int keep() {
        snapshot = now.copy();
        return now.row.size();
    }

    int restore() {
        if (snapshot == null) {
            return NONE;
        }
        State before = now;
        now = snapshot.copy();
        return act(before, now.row.size());
    }

    int trader(int trader, int what) {
        if (!in(trader, 0, 7)) {
            return UNKNOWN;
        }
        if (!in(what, 0, 7)) {
            return BAD_VALUE;
        }
        Trader t = now.traders.get(trader);
        int debt = t.coins < 0 ? -t.coins : 0;
        int coins = t.coins < 0 ? 0 : t.coins;
        return new int[] {debt, coins, t.asked, t.askedPaid, t.delivered, t.deliveredPaid, t.deliveredRefused,
            t.fees}[what];
    }

    int riddle(int riddle, int what) {
        if (!in(riddle, 0, now.riddles.size() - 1)) {
            return UNKNOWN;
        }
        if (!in(what, 0, 6)) {
            return BAD_VALUE;
        }
        Riddle r = now.riddles.get(riddle);
        return new int[] {r.asker, r.price, r.seal, r.state, r.answers, r.waiting, r.paidAnswer}[what];
    }

    int answer(int answer, int what) {
        if (!in(answer, 0, now.answers.size() - 1)) {
            return UNKNOWN;
        }
        if (!in(what, 0, 8)) {
            return BAD_VALUE;
        }
        Answer a = now.answers.get(answer);
        int place = now.row.indexOf(answer);
        return new int[] {a.giver, a.riddle, a.seal, a.weight, a.state, a.reason, a.doubts, a.payment,
            place < 0 ? NONE : place}[what];
    }

    int waits(int rank) {
        if (rank < 0) {
            return BAD_VALUE;
        }
        return rank < now.row.size() ? now.row.get(rank) : NONE;
    }

    int weigh(int scale, int weight) {
        if (!in(scale, 0, 1)) {
            return UNKNOWN;
        }
        return in(weight, 1, 99) ? now.weighing(scale, weight) : BAD_VALUE;
    }

    /** Puts the answer at the head of the row, lets a round of one pass, and looks what became of it. */
    int reason(int answer) {
        if (!in(answer, 0, now.answers.size() - 1)) {
            return UNKNOWN;
        }
        if (now.answers.get(answer).state != 0) {
            return NOT_POSSIBLE;
        }
        State then = now.copy();
        then.row.remove(Integer.valueOf(answer));
        then.row.add(0, answer);
        then.settings[2] = 1;
        int doubtsBefore = then.doubts;
        then.oneRound();
        Answer a = then.answers.get(answer);
        if (a.state == 1) {
            return 0;
        }
        if (a.state == 2) {
            return a.reason;
        }
        return then.doubts > doubtsBefore ? 3 : 4;
    }

    int settledIn(int answer) {
        if (!in(answer, 0, now.answers.size() - 1)) {
            return UNKNOWN;
        }
        if (now.answers.get(answer).state != 0) {
            return NOT_POSSIBLE;
        }
        State then = now.copy();
        int rounds = 0;
        while (then.answers.get(answer).state == 0 && rounds <= 300) {
            then.oneRound();
            rounds++;
        }
        return rounds > 300 ? NONE : rounds;
    }

    int ifRounds(int rounds, boolean adjusted) {
        if (!in(rounds, 1, 99)) {
            return BAD_VALUE;
        }
        State then = now.copy();
        if (adjusted) {
            then.drifts = new int[2];
        }
        int paid = 0;
        for (int i = 0; i < rounds; i++) {
            paid += then.oneRound();
        }
        return paid;
    }

    int richest() {
        int most = now.traders.stream().mapToInt(t -> t.coins).max().orElse(0);
        int trader = 0;
        while (now.traders.get(trader).coins != most) {
            trader++;
        }
        return trader;
    }

    int account(int trader) {
        return in(trader, 0, 7) ? now.traders.get(trader).coins + 100000 : UNKNOWN;
    }

    int count(int what) {
        if (!in(what, 0, 19)) {
            return BAD_VALUE;
        }
        int open = (int) now.riddles.stream().filter(r -> r.state == 0).count();
        int paid = now.traders.stream().mapToInt(t -> t.deliveredPaid).sum();
        int refused = now.traders.stream().mapToInt(t -> t.deliveredRefused).sum();
        int owing = (int) now.traders.stream().filter(t -> t.coins < 0).count();
        return new int[] {now.round, now.riddles.size(), open, now.answers.size(), now.row.size(), paid, refused,
            now.doubts, now.weighings, now.house, owing, now.payments, now.drifts[0] + 9, now.drifts[1] + 9,
            now.settings[0], now.settings[1], now.settings[2], now.settings[3], history.size(), text.length()}[what];
    }
}
