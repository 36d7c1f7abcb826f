import java.util.Random;

/** Long runs of calls of all kinds, with arguments in and out of range: class and model answer alike. */
public final class ModelTest {
    private static final int RUNS = 400;
    private static final int CALLS = 512;
    private static final Due CHECK = new Due();

    private final Random random;
    private final RiddleTrade x = new RiddleTrade();
    private final Model model = new Model();

    private ModelTest(long seed) {
        random = new Random(seed);
    }

    public static void main(String[] args) {
        for (int run = 0; run < RUNS && !CHECK.anyWrong(); run++) {
            new ModelTest(run).run("run " + run + " ");
        }
        CHECK.end();
    }

    private void run(String name) {
        int kinds = 20 + random.nextInt(30);
        for (int i = 0; i < CALLS && !CHECK.anyWrong(); i++) {
            String call = name + "call " + i + " ";
            step(call, random.nextInt(kinds));
            if (i % 16 == 0 || i == CALLS - 1) {
                compareAll(call);
            }
        }
    }

    private int from(int least, int most) {
        int kind = random.nextInt(60);
        if (kind == 0) {
            return least - 1;
        }
        if (kind == 1) {
            return most + 1;
        }
        if (kind == 2) {
            return new int[] {Integer.MIN_VALUE, Integer.MAX_VALUE, -1, 1 << 30, 100, 1000}[random.nextInt(6)];
        }
        if (kind < 8) {
            return random.nextBoolean() ? least : most;
        }
        return least + random.nextInt(most - least + 1);
    }

    private int riddle() {
        return from(Math.max(0, model.count(1) - 6), Math.max(0, model.count(1) - 1));
    }

    private int answer() {
        int rank = random.nextInt(4);
        return random.nextBoolean() && model.waits(rank) >= 0 ? model.waits(rank)
            : from(0, Math.max(0, model.count(3) - 1));
    }

    private int sealFor(int riddle) {
        int seal = model.riddle(riddle, 2);
        return seal < 0 || random.nextInt(5) == 0 ? from(0, 99) : seal;
    }

    private void step(String call, int kind) {
        if (kind < 8) {
            actStep(call, kind);
        } else if (kind < 20) {
            textStep(call, kind);
        } else {
            deliverOrTell(call, kind);
        }
    }

    private void actStep(String call, int kind) {
        int a = from(0, 7);
        int b = riddle();
        switch (kind) {
            case 0: {
                int price = from(1, 50);
                int seal = from(0, 99);
                CHECK.due(call + "ask " + a + " " + price + " " + seal, x.ask(a, price, seal),
                    model.ask(a, price, seal));
                break;
            }
            case 1:
                CHECK.due(call + "withdraw " + b, x.withdraw(b), model.withdraw(b));
                break;
            case 2:
            case 3: {
                int seal = sealFor(b);
                int weight = from(1, 99);
                CHECK.due(call + "deliver " + a + " " + b + " " + seal + " " + weight, x.deliver(a, b, seal, weight),
                    model.deliver(a, b, seal, weight));
                break;
            }
            case 4:
                CHECK.due(call + "adjust", x.adjust(), model.adjust());
                break;
            case 5: {
                int which = from(0, 3);
                int value = from(which == 2 ? 1 : 0, which == 3 ? 500 : 9);
                CHECK.due(call + "set " + which + " " + value, x.set(which, value), model.set(which, value));
                break;
            }
            default: {
                int rounds = random.nextInt(4) > 0 ? from(1, 3) : from(1, 99);
                CHECK.due(call + "pass " + rounds, x.pass(rounds), model.pass(rounds));
                break;
            }
        }
    }

    private void textStep(String call, int kind) {
        switch (kind) {
            case 8:
            case 9:
            case 10:
                CHECK.due(call + "clearText", x.clearText(), model.clearText());
                typeAll(call, offers());
                break;
            case 11:
            case 12:
                CHECK.due(call + "perform", x.perform(), model.perform());
                break;
            case 13:
                typeAll(call, String.valueOf("ra.:=*;0159\u0100".charAt(random.nextInt(12))));
                break;
            case 14: {
                int what = from(0, 1);
                CHECK.due(call + "stopped " + what, x.stopped(what), model.stopped(what));
                break;
            }
            case 15:
            case 16:
                CHECK.due(call + "undo", x.undo(), model.undo());
                break;
            case 17:
                CHECK.due(call + "keep", x.keep(), model.keep());
                break;
            case 18:
                CHECK.due(call + "restore", x.restore(), model.restore());
                break;
            default:
                CHECK.due(call + "richest", x.richest(), model.richest());
                break;
        }
    }

    private void deliverOrTell(String call, int kind) {
        int a = answer();
        switch (kind % 10) {
            case 0: {
                int rounds = from(1, 99);
                boolean adjusted = random.nextBoolean();
                CHECK.due(call + "ifRounds " + rounds + " " + adjusted, x.ifRounds(rounds, adjusted),
                    model.ifRounds(rounds, adjusted));
                break;
            }
            case 1:
                CHECK.due(call + "settledIn " + a, x.settledIn(a), model.settledIn(a));
                break;
            case 2:
                CHECK.due(call + "reason " + a, x.reason(a), model.reason(a));
                break;
            case 3: {
                int scale = from(0, 1);
                int weight = random.nextBoolean() ? from(1, 9) : from(1, 99);
                CHECK.due(call + "weigh " + scale + " " + weight, x.weigh(scale, weight), model.weigh(scale, weight));
                break;
            }
            case 4: {
                int rank = from(0, 39);
                CHECK.due(call + "waits " + rank, x.waits(rank), model.waits(rank));
                break;
            }
            case 5: {
                int trader = from(0, 7);
                int what = from(0, 7);
                CHECK.due(call + "trader " + trader + " " + what, x.trader(trader, what), model.trader(trader, what));
                CHECK.due(call + "account " + trader, x.account(trader), model.account(trader));
                break;
            }
            case 6: {
                int riddle = riddle();
                int what = from(0, 6);
                CHECK.due(call + "riddle " + riddle + " " + what, x.riddle(riddle, what), model.riddle(riddle, what));
                break;
            }
            case 7: {
                int what = from(0, 8);
                CHECK.due(call + "answer " + a + " " + what, x.answer(a, what), model.answer(a, what));
                break;
            }
            case 8: {
                int what = from(0, 19);
                CHECK.due(call + "count " + what, x.count(what), model.count(what));
                break;
            }
            default:
                actStep(call, 2);
                break;
        }
    }

    private void typeAll(String call, String text) {
        for (int i = 0; i < text.length(); i++) {
            char character = text.charAt(i);
            CHECK.due(call + "type " + (int) character, x.type(character), model.type(character));
        }
        if (random.nextInt(3) > 0) {
            CHECK.due(call + "perform of " + text, x.perform(), model.perform());
        }
    }

    /** Offers that often are without fault; sometimes a character is another one, or the end is missing. */
    private String offers() {
        StringBuilder text = new StringBuilder();
        int things = 1 + random.nextInt(random.nextInt(4) == 0 ? 20 : 4);
        int riddles = model.count(1);
        for (int i = 0; i < things; i++) {
            text.append(i == 0 ? "" : ";");
            int kind = random.nextInt(5);
            if (kind == 0) {
                text.append('r').append(from(0, 7)).append(':').append(from(1, 50)).append('=').append(from(0, 99));
                riddles++;
            } else if (kind < 4 && riddles > 0) {
                int riddle = Math.max(0, riddles - 1 - random.nextInt(3));
                text.append('a').append(from(0, 7)).append(':').append(riddle).append('=').append(sealFor(riddle))
                    .append('*').append(from(1, 99));
            } else {
                text.append('.').append(random.nextInt(4) == 0 ? from(1, 99) : from(1, 3));
            }
        }
        if (random.nextInt(5) == 0) {
            text.setCharAt(random.nextInt(text.length()), "ra.:=*;0123456789 \u00b2".charAt(random.nextInt(19)));
        }
        if (random.nextInt(8) == 0) {
            text.setLength(random.nextInt(text.length()));
        }
        return text.toString();
    }

    private void compareAll(String call) {
        for (int what = 0; what < 20; what++) {
            CHECK.due(call + "all: count " + what, x.count(what), model.count(what));
        }
        for (int trader = 0; trader < 8; trader++) {
            for (int what = 0; what < 8; what++) {
                CHECK.due(call + "all: trader " + trader + " " + what, x.trader(trader, what),
                    model.trader(trader, what));
            }
            CHECK.due(call + "all: account " + trader, x.account(trader), model.account(trader));
        }
        for (int riddle = -1; riddle <= 20; riddle++) {
            for (int what = 0; what < 7; what++) {
                CHECK.due(call + "all: riddle " + riddle + " " + what, x.riddle(riddle, what),
                    model.riddle(riddle, what));
            }
        }
        for (int answer = -1; answer <= 40; answer++) {
            for (int what = 0; what < 9; what++) {
                CHECK.due(call + "all: answer " + answer + " " + what, x.answer(answer, what),
                    model.answer(answer, what));
            }
            CHECK.due(call + "all: waits " + answer, x.waits(answer), model.waits(answer));
            CHECK.due(call + "all: reason " + answer, x.reason(answer), model.reason(answer));
        }
        CHECK.due(call + "all: richest", x.richest(), model.richest());
        CHECK.due(call + "all: stopped 0", x.stopped(0), model.stopped(0));
        CHECK.due(call + "all: stopped 1", x.stopped(1), model.stopped(1));
    }
}
