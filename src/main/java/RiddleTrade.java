/** A riddle exchange: ../shared/DOC.md says what every call answers. */
public final class RiddleTrade {
    public static final int UNKNOWN = -1;
    public static final int BAD_VALUE = -2;
    public static final int FULL = -3;
    public static final int NOT_POSSIBLE = -4;
    public static final int NONE = -5;

    private static final int TRADERS = 8;
    private static final int MOST_RIDDLES = 20;
    private static final int MOST_ANSWERS = 40;
    private static final int MOST_PRICE = 50;
    private static final int MOST_SEAL = 99;
    private static final int MOST_WEIGHT = 99;
    private static final int MOST_ROUNDS = 99;
    private static final int LAST_ROUND = 9999;
    private static final int LONGEST_OUTLOOK = 300;
    private static final int LONGEST_TEXT = 60;
    private static final int MOST_STATES = 4;

    // The next state is made in 'trial' and taken over only if nothing hinders it.
    private final Exchange now = new Exchange();
    private final Exchange trial = new Exchange();
    private final Exchange snapshot = new Exchange();
    private final History history = new History();
    private final Offers offers = new Offers();
    private boolean hasSnapshot;
    private int stoppedNumber = NONE;
    private int stoppedError = NONE;

    public RiddleTrade() {
    }

    // ---- riddles, answers, rounds

    public int ask(int trader, int price, int seal) {
        trial.copyFrom(now);
        return finishAct(trial.addRiddle(trader, price, seal));
    }

    public int withdraw(int riddle) {
        trial.copyFrom(now);
        return finishAct(trial.closeRiddle(riddle));
    }

    public int deliver(int trader, int riddle, int seal, int weight) {
        trial.copyFrom(now);
        return finishAct(trial.addAnswer(trader, riddle, seal, weight));
    }

    public int adjust() {
        trial.copyFrom(now);
        return finishAct(trial.setScalesRight());
    }

    public int set(int which, int value) {
        trial.copyFrom(now);
        return finishAct(trial.changeSetting(which, value));
    }

    public int pass(int rounds) {
        trial.copyFrom(now);
        return finishAct(trial.playRounds(rounds));
    }

    // ---- texts

    public int type(char character) {
        return offers.addCharacter(character);
    }

    public int clearText() {
        return offers.emptyText();
    }

    public int perform() {
        int fault = offers.read();
        if (fault >= 0) {
            return -100 - fault;
        }
        trial.copyFrom(now);
        int things = offers.thingCount();
        for (int thing = 0; thing < things; thing++) {
            int result = doThing(thing);
            if (result < 0) {
                stoppedNumber = thing;
                stoppedError = result;
                return NOT_POSSIBLE;
            }
        }
        return finishAct(things);
    }

    public int stopped(int what) {
        switch (what) {
            case 0:
                return stoppedNumber;
            case 1:
                return stoppedError;
            default:
                return BAD_VALUE;
        }
    }

    // ---- history

    public int undo() {
        return history.takeBackInto(now);
    }

    public int keep() {
        snapshot.copyFrom(now);
        hasSnapshot = true;
        return now.waiting();
    }

    public int restore() {
        if (!hasSnapshot) {
            return NONE;
        }
        trial.copyFrom(snapshot);
        return finishAct(trial.waiting());
    }

    // ---- what is told

    public int trader(int trader, int what) {
        return now.tellTrader(trader, what);
    }

    public int riddle(int riddle, int what) {
        return now.tellRiddle(riddle, what);
    }

    public int answer(int answer, int what) {
        return now.tellAnswer(answer, what);
    }

    public int waits(int rank) {
        return rank < 0 ? BAD_VALUE : now.waitingAt(rank);
    }

    public int weigh(int scale, int weight) {
        if (scale < 0 || scale > 1) {
            return UNKNOWN;
        }
        if (weight < 1 || weight > MOST_WEIGHT) {
            return BAD_VALUE;
        }
        return now.told(scale, weight);
    }

    public int reason(int answer) {
        int error = now.errorIfNotWaiting(answer);
        return error < 0 ? error : now.hindrance(answer, now.paymentFor(answer));
    }

    public int settledIn(int answer) {
        int error = now.errorIfNotWaiting(answer);
        if (error < 0) {
            return error;
        }
        trial.copyFrom(now);
        for (int rounds = 1; rounds <= LONGEST_OUTLOOK; rounds++) {
            trial.playRound();
            if (trial.errorIfNotWaiting(answer) < 0) {
                return rounds;
            }
        }
        return NONE;
    }

    public int ifRounds(int rounds, boolean adjusted) {
        if (rounds < 1 || rounds > MOST_ROUNDS) {
            return BAD_VALUE;
        }
        trial.copyFrom(now);
        if (adjusted) {
            trial.setScalesRight();
        }
        int paid = 0;
        for (int i = 0; i < rounds; i++) {
            paid += trial.playRound();
        }
        return paid;
    }

    public int richest() {
        return now.richestTrader();
    }

    public int account(int trader) {
        return now.tellAccount(trader);
    }

    public int count(int what) {
        switch (what) {
            case 18:
                return history.size();
            case 19:
                return offers.textLength();
            default:
                return now.tellCount(what);
        }
    }

    // ---- what is shared

    /** Takes over the trial, unless its result is an error or NONE (all are below 0). */
    private int finishAct(int result) {
        if (result >= 0) {
            history.record(now);
            now.copyFrom(trial);
        }
        return result;
    }

    private int doThing(int thing) {
        int first = offers.numberOf(thing, Offers.FIRST);
        int second = offers.numberOf(thing, Offers.SECOND);
        int third = offers.numberOf(thing, Offers.THIRD);
        switch (offers.numberOf(thing, Offers.KIND)) {
            case Offers.RIDDLE:
                return trial.addRiddle(first, second, third);
            case Offers.ANSWER:
                return trial.addAnswer(first, second, third, offers.numberOf(thing, Offers.FOURTH));
            default:
                return trial.playRounds(first);
        }
    }

    /** Rows of numbers; a place outside of it reads as 0 and takes nothing. */
    private static final class Table {
        private final int[] cells;
        private final int columns;
        private int rows;

        Table(int[] emptyCells, int columns) {
            this.cells = emptyCells;
            this.columns = columns;
        }

        int rows() {
            return rows;
        }

        boolean has(int row) {
            return row >= 0 && row < rows;
        }

        int addRow() {
            rows++;
            return rows - 1;
        }

        void dropRows() {
            rows = 0;
        }

        int get(int row, int column) {
            int index = row * columns + column;
            return index >= 0 && index < cells.length ? cells[index] : 0;
        }

        void put(int row, int column, int value) {
            int index = row * columns + column;
            if (index >= 0 && index < cells.length) {
                cells[index] = value;
            }
        }

        void increase(int row, int column, int by) {
            int index = row * columns + column;
            if (index >= 0 && index < cells.length) {
                cells[index] += by;
            }
        }

        int countOf(int column, int value) {
            int found = 0;
            for (int row = 0; row < rows; row++) {
                if (get(row, column) == value) {
                    found++;
                }
            }
            return found;
        }

        int countOfBoth(int column, int value, int otherColumn, int otherValue) {
            int found = 0;
            for (int row = 0; row < rows; row++) {
                if (get(row, column) == value && get(row, otherColumn) == otherValue) {
                    found++;
                }
            }
            return found;
        }

        /** The first row with both values, or NONE. */
        int rowOfBoth(int column, int value, int otherColumn, int otherValue) {
            for (int row = 0; row < rows; row++) {
                if (get(row, column) == value && get(row, otherColumn) == otherValue) {
                    return row;
                }
            }
            return NONE;
        }

        int sumOf(int column) {
            int sum = 0;
            for (int row = 0; row < rows; row++) {
                sum += get(row, column);
            }
            return sum;
        }

        void copyFrom(Table other) {
            rows = other.rows;
            System.arraycopy(other.cells, 0, cells, 0, Math.min(cells.length, other.cells.length));
        }
    }

    /** The answers that wait; a ring, so that taking the head moves no other one. */
    private static final class Row {
        private final int[] ring = new int[MOST_ANSWERS];
        private int head;
        private int length;

        int length() {
            return length;
        }

        int at(int rank) {
            if (rank < 0 || rank >= length) {
                return NONE;
            }
            int index = (head + rank) % MOST_ANSWERS;
            return index >= 0 && index < ring.length ? ring[index] : NONE;
        }

        int placeOf(int answer) {
            for (int rank = 0; rank < length; rank++) {
                if (at(rank) == answer) {
                    return rank;
                }
            }
            return NONE;
        }

        void addLast(int answer) {
            int index = (head + length) % MOST_ANSWERS;
            if (length < MOST_ANSWERS && index >= 0 && index < ring.length) {
                ring[index] = answer;
                length++;
            }
        }

        int takeFirst() {
            int first = at(0);
            if (length > 0) {
                head = (head + 1) % MOST_ANSWERS;
                length--;
            }
            return first;
        }

        void copyFrom(Row other) {
            head = other.head;
            length = other.length;
            System.arraycopy(other.ring, 0, ring, 0, Math.min(ring.length, other.ring.length));
        }
    }

    /** A whole state: all but the text, the history, the snapshot and the latest stop. */
    private static final class Exchange {
        private static final int COINS = 0;
        private static final int FEES = 1;
        private static final int TRADER_COLUMNS = 2;

        // The columns of riddles and answers bear the numbers by which the face asks for them.
        private static final int ASKER = 0;
        private static final int PRICE = 1;
        private static final int RIDDLE_SEAL = 2;
        private static final int RIDDLE_STATE = 3;
        private static final int RIDDLE_COLUMNS = 4;

        private static final int GIVER = 0;
        private static final int RIDDLE = 1;
        private static final int ANSWER_SEAL = 2;
        private static final int WEIGHT = 3;
        private static final int ANSWER_STATE = 4;
        private static final int REASON = 5;
        private static final int DOUBTS = 6;
        private static final int PAYMENT = 7;
        private static final int ANSWER_COLUMNS = 8;

        private static final int OPEN = 0;
        private static final int WAITS = 0;
        private static final int PAID = 1;
        private static final int WITHDRAWN = 2;
        private static final int REFUSED = 2;

        private static final int SCALES = 2;
        private static final int DRIFT = 0;
        private static final int WEIGHINGS = 1;
        private static final int SCALE_COLUMNS = 2;

        private static final int SETTINGS = 4;
        private static final int MOST_DIFFERENCE = 0;
        private static final int MOST_DRIFT = 1;
        private static final int TAKEN_A_ROUND = 2;
        private static final int MOST_DEBT = 3;
        private static final int VALUE = 0;
        private static final int LEAST_VALUE = 1;
        private static final int MOST_VALUE = 2;
        private static final int SETTING_COLUMNS = 3;

        private static final int NOTHING_HINDERS = 0;
        private static final int NOT_OPEN = 1;
        private static final int WRONG_SEAL = 2;
        private static final int DOUBTED = 3;
        private static final int CANNOT_PAY = 4;

        private static final int FIRST_COINS = 100;
        private static final int DOUBTS_THAT_REFUSE = 3;
        private static final int FEE_PART = 20;
        private static final int MOST_FEE = 5;
        private static final int WEIGHT_PART = 10;
        private static final int DRIFT_SHIFT = 9;
        private static final int ACCOUNT_SHIFT = 100000;

        private final Table traders = new Table(new int[TRADERS * TRADER_COLUMNS], TRADER_COLUMNS);
        private final Table riddles = new Table(new int[MOST_RIDDLES * RIDDLE_COLUMNS], RIDDLE_COLUMNS);
        private final Table answers = new Table(new int[MOST_ANSWERS * ANSWER_COLUMNS], ANSWER_COLUMNS);
        private final Table scales = new Table(new int[SCALES * SCALE_COLUMNS], SCALE_COLUMNS);
        private final Table settings = new Table(new int[SETTINGS * SETTING_COLUMNS], SETTING_COLUMNS);
        private final Row row = new Row();
        private int round;

        Exchange() {
            for (int trader = 0; trader < TRADERS; trader++) {
                traders.put(traders.addRow(), COINS, FIRST_COINS);
            }
            for (int scale = 0; scale < SCALES; scale++) {
                scales.addRow();
            }
            addSetting(2, 0, 9);
            addSetting(4, 0, 9);
            addSetting(3, 1, 9);
            addSetting(50, 0, 500);
        }

        private void addSetting(int value, int least, int most) {
            int which = settings.addRow();
            settings.put(which, VALUE, value);
            settings.put(which, LEAST_VALUE, least);
            settings.put(which, MOST_VALUE, most);
        }

        void copyFrom(Exchange other) {
            traders.copyFrom(other.traders);
            riddles.copyFrom(other.riddles);
            answers.copyFrom(other.answers);
            scales.copyFrom(other.scales);
            settings.copyFrom(other.settings);
            row.copyFrom(other.row);
            round = other.round;
        }

        // ---- acts: the checks stand first, so that an error changes nothing

        int addRiddle(int trader, int price, int seal) {
            if (!traders.has(trader)) {
                return UNKNOWN;
            }
            if (price < 1 || price > MOST_PRICE || seal < 0 || seal > MOST_SEAL) {
                return BAD_VALUE;
            }
            if (riddles.rows() >= MOST_RIDDLES) {
                return FULL;
            }
            int riddle = riddles.addRow();
            riddles.put(riddle, ASKER, trader);
            riddles.put(riddle, PRICE, price);
            riddles.put(riddle, RIDDLE_SEAL, seal);
            riddles.put(riddle, RIDDLE_STATE, OPEN);
            return riddle;
        }

        int closeRiddle(int riddle) {
            if (!riddles.has(riddle)) {
                return UNKNOWN;
            }
            if (riddles.get(riddle, RIDDLE_STATE) != OPEN) {
                return NOT_POSSIBLE;
            }
            riddles.put(riddle, RIDDLE_STATE, WITHDRAWN);
            return answers.countOfBoth(RIDDLE, riddle, ANSWER_STATE, WAITS);
        }

        int addAnswer(int trader, int riddle, int seal, int weight) {
            if (!traders.has(trader) || !riddles.has(riddle)) {
                return UNKNOWN;
            }
            if (seal < 0 || seal > MOST_SEAL || weight < 1 || weight > MOST_WEIGHT) {
                return BAD_VALUE;
            }
            if (riddles.get(riddle, RIDDLE_STATE) != OPEN || riddles.get(riddle, ASKER) == trader) {
                return NOT_POSSIBLE;
            }
            if (answers.rows() >= MOST_ANSWERS) {
                return FULL;
            }
            int answer = answers.addRow();
            answers.put(answer, GIVER, trader);
            answers.put(answer, RIDDLE, riddle);
            answers.put(answer, ANSWER_SEAL, seal);
            answers.put(answer, WEIGHT, weight);
            answers.put(answer, ANSWER_STATE, WAITS);
            answers.put(answer, REASON, 0);
            answers.put(answer, DOUBTS, 0);
            answers.put(answer, PAYMENT, 0);
            row.addLast(answer);
            return answer;
        }

        int setScalesRight() {
            int drifts = 0;
            for (int scale = 0; scale < SCALES; scale++) {
                drifts += Math.abs(scales.get(scale, DRIFT));
                scales.put(scale, DRIFT, 0);
            }
            return drifts == 0 ? NONE : drifts;
        }

        int changeSetting(int which, int value) {
            if (!settings.has(which)) {
                return UNKNOWN;
            }
            if (value < settings.get(which, LEAST_VALUE) || value > settings.get(which, MOST_VALUE)) {
                return BAD_VALUE;
            }
            int previous = settings.get(which, VALUE);
            if (previous == value) {
                return NONE;
            }
            settings.put(which, VALUE, value);
            return previous;
        }

        int playRounds(int rounds) {
            if (rounds < 1 || rounds > MOST_ROUNDS) {
                return BAD_VALUE;
            }
            if (round + rounds > LAST_ROUND) {
                return FULL;
            }
            int paid = 0;
            for (int i = 0; i < rounds; i++) {
                paid += playRound();
            }
            return paid;
        }

        // ---- a round

        /** Lets a round pass, even beyond the last one: the outlooks know no last round. */
        int playRound() {
            // What goes to the end of the row is behind all that are taken in this round.
            int taken = Math.min(settings.get(TAKEN_A_ROUND, VALUE), row.length());
            int paid = 0;
            for (int i = 0; i < taken; i++) {
                if (takeOne(row.takeFirst())) {
                    paid++;
                }
            }
            chargeFees();
            round++;
            return paid;
        }

        private boolean takeOne(int answer) {
            int payment = paymentFor(answer);
            int hindrance = hindrance(answer, payment);
            if (hindrance == NOT_OPEN || hindrance == WRONG_SEAL) {
                refuse(answer, hindrance);
                return false;
            }
            driftOn(0, 1);
            driftOn(1, -1);
            switch (hindrance) {
                case DOUBTED:
                    doubt(answer);
                    return false;
                case CANNOT_PAY:
                    row.addLast(answer);
                    return false;
                default:
                    pay(answer, payment);
                    return true;
            }
        }

        private void refuse(int answer, int reason) {
            answers.put(answer, ANSWER_STATE, REFUSED);
            answers.put(answer, REASON, reason);
        }

        private void doubt(int answer) {
            answers.increase(answer, DOUBTS, 1);
            if (answers.get(answer, DOUBTS) >= DOUBTS_THAT_REFUSE) {
                refuse(answer, DOUBTED);
            } else {
                row.addLast(answer);
            }
        }

        private void pay(int answer, int payment) {
            int riddle = answers.get(answer, RIDDLE);
            traders.increase(riddles.get(riddle, ASKER), COINS, -payment);
            traders.increase(answers.get(answer, GIVER), COINS, payment);
            answers.put(answer, ANSWER_STATE, PAID);
            answers.put(answer, PAYMENT, payment);
            riddles.put(riddle, RIDDLE_STATE, PAID);
        }

        private void driftOn(int scale, int step) {
            int drift = scales.get(scale, DRIFT) + step;
            int most = settings.get(MOST_DRIFT, VALUE);
            if (Math.abs(drift) > most) {
                drift = drift > 0 ? -most : most;
            }
            scales.put(scale, DRIFT, drift);
            scales.increase(scale, WEIGHINGS, 1);
        }

        private void chargeFees() {
            for (int trader = 0; trader < TRADERS; trader++) {
                int debt = -traders.get(trader, COINS);
                if (debt > 0) {
                    int fee = Math.min(debt / FEE_PART, MOST_FEE);
                    traders.increase(trader, COINS, -fee);
                    traders.increase(trader, FEES, fee);
                }
            }
        }

        // ---- what would be

        int told(int scale, int weight) {
            return Math.max(0, weight + scales.get(scale, DRIFT));
        }

        int paymentFor(int answer) {
            int weight = answers.get(answer, WEIGHT);
            int price = riddles.get(answers.get(answer, RIDDLE), PRICE);
            return price + (told(0, weight) + told(1, weight)) / WEIGHT_PART;
        }

        /** Why an answer would not be paid now; the numbers are those of reason(). */
        int hindrance(int answer, int payment) {
            int riddle = answers.get(answer, RIDDLE);
            if (riddles.get(riddle, RIDDLE_STATE) != OPEN) {
                return NOT_OPEN;
            }
            if (riddles.get(riddle, RIDDLE_SEAL) != answers.get(answer, ANSWER_SEAL)) {
                return WRONG_SEAL;
            }
            int weight = answers.get(answer, WEIGHT);
            if (Math.abs(told(0, weight) - told(1, weight)) > settings.get(MOST_DIFFERENCE, VALUE)) {
                return DOUBTED;
            }
            int coins = traders.get(riddles.get(riddle, ASKER), COINS);
            return coins - payment < -settings.get(MOST_DEBT, VALUE) ? CANNOT_PAY : NOTHING_HINDERS;
        }

        int errorIfNotWaiting(int answer) {
            if (!answers.has(answer)) {
                return UNKNOWN;
            }
            return answers.get(answer, ANSWER_STATE) == WAITS ? 0 : NOT_POSSIBLE;
        }

        // ---- what is told

        int waiting() {
            return row.length();
        }

        int waitingAt(int rank) {
            return row.at(rank);
        }

        int tellTrader(int trader, int what) {
            if (!traders.has(trader)) {
                return UNKNOWN;
            }
            switch (what) {
                case 0:
                    return Math.max(0, -traders.get(trader, COINS));
                case 1:
                    return Math.max(0, traders.get(trader, COINS));
                case 2:
                    return riddles.countOf(ASKER, trader);
                case 3:
                    return riddles.countOfBoth(ASKER, trader, RIDDLE_STATE, PAID);
                case 4:
                    return answers.countOf(GIVER, trader);
                case 5:
                    return answers.countOfBoth(GIVER, trader, ANSWER_STATE, PAID);
                case 6:
                    return answers.countOfBoth(GIVER, trader, ANSWER_STATE, REFUSED);
                case 7:
                    return traders.get(trader, FEES);
                default:
                    return BAD_VALUE;
            }
        }

        int tellRiddle(int riddle, int what) {
            if (!riddles.has(riddle)) {
                return UNKNOWN;
            }
            switch (what) {
                case ASKER:
                case PRICE:
                case RIDDLE_SEAL:
                case RIDDLE_STATE:
                    return riddles.get(riddle, what);
                case 4:
                    return answers.countOf(RIDDLE, riddle);
                case 5:
                    return answers.countOfBoth(RIDDLE, riddle, ANSWER_STATE, WAITS);
                case 6:
                    return answers.rowOfBoth(RIDDLE, riddle, ANSWER_STATE, PAID);
                default:
                    return BAD_VALUE;
            }
        }

        int tellAnswer(int answer, int what) {
            if (!answers.has(answer)) {
                return UNKNOWN;
            }
            if (what == ANSWER_COLUMNS) {
                return row.placeOf(answer);
            }
            return what < 0 || what > ANSWER_COLUMNS ? BAD_VALUE : answers.get(answer, what);
        }

        int richestTrader() {
            int richest = 0;
            for (int trader = 1; trader < TRADERS; trader++) {
                if (traders.get(trader, COINS) > traders.get(richest, COINS)) {
                    richest = trader;
                }
            }
            return richest;
        }

        /** Reckons from the answers, not from the coins, so that each can prove the other. */
        int tellAccount(int trader) {
            if (!traders.has(trader)) {
                return UNKNOWN;
            }
            int coins = FIRST_COINS - traders.get(trader, FEES);
            for (int answer = 0; answer < answers.rows(); answer++) {
                int payment = answers.get(answer, PAYMENT);
                if (answers.get(answer, GIVER) == trader) {
                    coins += payment;
                }
                if (riddles.get(answers.get(answer, RIDDLE), ASKER) == trader) {
                    coins -= payment;
                }
            }
            return coins + ACCOUNT_SHIFT;
        }

        int tellCount(int what) {
            switch (what) {
                case 0:
                    return round;
                case 1:
                    return riddles.rows();
                case 2:
                    return riddles.countOf(RIDDLE_STATE, OPEN);
                case 3:
                    return answers.rows();
                case 4:
                    return row.length();
                case 5:
                    return answers.countOf(ANSWER_STATE, PAID);
                case 6:
                    return answers.countOf(ANSWER_STATE, REFUSED);
                case 7:
                    return answers.sumOf(DOUBTS);
                case 8:
                    return scales.sumOf(WEIGHINGS);
                case 9:
                    // The house has what the traders paid it, and pays nobody.
                    return traders.sumOf(FEES);
                case 10:
                    return tradersInDebt();
                case 11:
                    return answers.sumOf(PAYMENT);
                case 12:
                case 13:
                    return scales.get(what - 12, DRIFT) + DRIFT_SHIFT;
                case 14:
                case 15:
                case 16:
                case 17:
                    return settings.get(what - 14, VALUE);
                default:
                    return BAD_VALUE;
            }
        }

        private int tradersInDebt() {
            int found = 0;
            for (int trader = 0; trader < TRADERS; trader++) {
                if (traders.get(trader, COINS) < 0) {
                    found++;
                }
            }
            return found;
        }
    }

    /** The states before the latest acts; the oldest one gives way when there are too many. */
    private static final class History {
        private final Exchange[] states = new Exchange[MOST_STATES];
        private int oldest;
        private int size;

        History() {
            for (int i = 0; i < states.length; i++) {
                states[i] = new Exchange();
            }
        }

        int size() {
            return size;
        }

        void record(Exchange before) {
            if (size >= MOST_STATES) {
                oldest = (oldest + 1) % MOST_STATES;
                size--;
            }
            Exchange place = stateAt(size);
            if (place != null) {
                place.copyFrom(before);
                size++;
            }
        }

        int takeBackInto(Exchange exchange) {
            Exchange latest = stateAt(size - 1);
            if (size <= 0 || latest == null) {
                return NONE;
            }
            exchange.copyFrom(latest);
            size--;
            return size;
        }

        private Exchange stateAt(int age) {
            int index = (oldest + age) % MOST_STATES;
            return index >= 0 && index < states.length ? states[index] : null;
        }
    }

    /** The text, and the things that were read from it. */
    private static final class Offers {
        static final int KIND = 0;
        static final int FIRST = 1;
        static final int SECOND = 2;
        static final int THIRD = 3;
        static final int FOURTH = 4;
        private static final int COLUMNS = 5;

        static final int RIDDLE = 0;
        static final int ANSWER = 1;
        static final int ROUNDS = 2;

        private static final int NO_FAULT = -1;
        private static final int NO_CHARACTER = -1;
        private static final int NO_DIGIT = -1;
        // A thing has two characters at least.
        private static final int MOST_THINGS = LONGEST_TEXT / 2;

        private final char[] text = new char[LONGEST_TEXT];
        private final Table things = new Table(new int[MOST_THINGS * COLUMNS], COLUMNS);
        private int length;
        private int position;
        private boolean faulty;

        int textLength() {
            return length;
        }

        int addCharacter(char character) {
            if (length < 0 || length >= text.length) {
                return FULL;
            }
            text[length] = character;
            length++;
            return length;
        }

        int emptyText() {
            int before = length;
            length = 0;
            return before;
        }

        int thingCount() {
            return things.rows();
        }

        int numberOf(int thing, int column) {
            return things.get(thing, column);
        }

        /** Reads the whole text; returns the place of its fault, or NO_FAULT. */
        int read() {
            things.dropRows();
            position = 0;
            faulty = false;
            for (int i = 0; i < MOST_THINGS; i++) {
                readThing(things.addRow());
                if (faulty) {
                    return position;
                }
                if (position == length) {
                    return NO_FAULT;
                }
                expect(';');
            }
            return position;
        }

        private void readThing(int thing) {
            switch (here()) {
                case 'r':
                    position++;
                    things.put(thing, KIND, RIDDLE);
                    readNumber(thing, FIRST, 0, TRADERS - 1);
                    expect(':');
                    readNumber(thing, SECOND, 1, MOST_PRICE);
                    expect('=');
                    readNumber(thing, THIRD, 0, MOST_SEAL);
                    break;
                case 'a':
                    position++;
                    things.put(thing, KIND, ANSWER);
                    readNumber(thing, FIRST, 0, TRADERS - 1);
                    expect(':');
                    readNumber(thing, SECOND, 0, MOST_RIDDLES - 1);
                    expect('=');
                    readNumber(thing, THIRD, 0, MOST_SEAL);
                    expect('*');
                    readNumber(thing, FOURTH, 1, MOST_WEIGHT);
                    break;
                case '.':
                    position++;
                    things.put(thing, KIND, ROUNDS);
                    readNumber(thing, FIRST, 1, MOST_ROUNDS);
                    break;
                default:
                    faulty = true;
                    break;
            }
        }

        /** Reads a number of at most two digits, which is at least 0 or 1. */
        private void readNumber(int thing, int column, int least, int most) {
            int number = digitHere();
            // NO_DIGIT is below each least number.
            if (number < least || number > most) {
                faulty = true;
                return;
            }
            position++;
            int digit = digitHere();
            if (number > 0 && digit != NO_DIGIT && number * 10 + digit <= most) {
                number = number * 10 + digit;
                position++;
            }
            things.put(thing, column, number);
        }

        private void expect(int character) {
            if (here() == character) {
                position++;
            } else {
                faulty = true;
            }
        }

        private int digitHere() {
            int character = here();
            return character >= '0' && character <= '9' ? character - '0' : NO_DIGIT;
        }

        /** What stands at the position; behind a fault nothing, so that the position stays at it. */
        private int here() {
            boolean inside = position >= 0 && position < length && position < text.length;
            return inside && !faulty ? text[position] : NO_CHARACTER;
        }
    }
}
