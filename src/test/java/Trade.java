import java.util.ArrayList;
import java.util.List;
import java.util.function.ToIntFunction;

/** An exchange that remembers its calls, so that a run can be told, and made once more on a new one. */
final class Trade {
    /** The document promises nothing of what later calls answer. */
    static final int MOST_CALLS = 512;

    private final RiddleTrade exchange = new RiddleTrade();
    private final List<String> names = new ArrayList<>();
    private final List<ToIntFunction<RiddleTrade>> calls = new ArrayList<>();
    private int made;

    private int call(ToIntFunction<RiddleTrade> call, String name, Object... arguments) {
        StringBuilder text = new StringBuilder(name).append('(');
        for (int i = 0; i < arguments.length; i++) {
            text.append(i == 0 ? "" : ", ").append(arguments[i]);
        }
        return made(text.append(')').toString(), call);
    }

    private int made(String name, ToIntFunction<RiddleTrade> call) {
        made++;
        if (made > MOST_CALLS) {
            throw new IllegalStateException("a test makes more than 512 calls: " + name);
        }
        names.add(name);
        calls.add(call);
        return call.applyAsInt(exchange);
    }

    /** A new exchange with the same calls but the last ones. */
    Trade againBut(int last) {
        Trade again = new Trade();
        for (int i = 0; i < calls.size() - last; i++) {
            again.made(names.get(i), calls.get(i));
        }
        return again;
    }

    /** For a call that changed nothing: the run is the same one without it. */
    void forgetLast() {
        names.remove(names.size() - 1);
        calls.remove(calls.size() - 1);
    }

    String lastCall() {
        return names.isEmpty() ? "no call" : names.get(names.size() - 1);
    }

    String callsBeforeLast() {
        return String.join(" ", names.subList(0, Math.max(0, names.size() - 1)));
    }

    int callsMade() {
        return made;
    }

    int ask(int trader, int price, int seal) {
        return call(x -> x.ask(trader, price, seal), "ask", trader, price, seal);
    }

    int withdraw(int riddle) {
        return call(x -> x.withdraw(riddle), "withdraw", riddle);
    }

    int deliver(int trader, int riddle, int seal, int weight) {
        return call(x -> x.deliver(trader, riddle, seal, weight), "deliver", trader, riddle, seal, weight);
    }

    int adjust() {
        return call(RiddleTrade::adjust, "adjust");
    }

    int set(int which, int value) {
        return call(x -> x.set(which, value), "set", which, value);
    }

    int pass(int rounds) {
        return call(x -> x.pass(rounds), "pass", rounds);
    }

    int type(char character) {
        return call(x -> x.type(character), "type", "(char) " + (int) character);
    }

    /** Types a whole text behind the one that is there. */
    void typeAll(String text) {
        for (int i = 0; i < text.length(); i++) {
            type(text.charAt(i));
        }
    }

    int clearText() {
        return call(RiddleTrade::clearText, "clearText");
    }

    int perform() {
        return call(RiddleTrade::perform, "perform");
    }

    int stopped(int what) {
        return call(x -> x.stopped(what), "stopped", what);
    }

    int undo() {
        return call(RiddleTrade::undo, "undo");
    }

    int keep() {
        return call(RiddleTrade::keep, "keep");
    }

    int restore() {
        return call(RiddleTrade::restore, "restore");
    }

    int trader(int trader, int what) {
        return call(x -> x.trader(trader, what), "trader", trader, what);
    }

    int riddle(int riddle, int what) {
        return call(x -> x.riddle(riddle, what), "riddle", riddle, what);
    }

    int answer(int answer, int what) {
        return call(x -> x.answer(answer, what), "answer", answer, what);
    }

    int waits(int rank) {
        return call(x -> x.waits(rank), "waits", rank);
    }

    int weigh(int scale, int weight) {
        return call(x -> x.weigh(scale, weight), "weigh", scale, weight);
    }

    int reason(int answer) {
        return call(x -> x.reason(answer), "reason", answer);
    }

    int settledIn(int answer) {
        return call(x -> x.settledIn(answer), "settledIn", answer);
    }

    int ifRounds(int rounds, boolean adjusted) {
        return call(x -> x.ifRounds(rounds, adjusted), "ifRounds", rounds, adjusted);
    }

    int richest() {
        return call(RiddleTrade::richest, "richest");
    }

    int account(int trader) {
        return call(x -> x.account(trader), "account", trader);
    }

    int count(int what) {
        return call(x -> x.count(what), "count", what);
    }
}
