import java.util.List;

/** Checks answers under the sentence of the document that asks for them, and names it where one is not as due. */
final class Sentences {
    private final Document document;
    private final Due check = new Due();
    private String place = "";
    private int sentences;

    Sentences(Document document) {
        this.document = document;
    }

    /** The test of a sentence begins. */
    void sentence(String section, String words) {
        sentences++;
        place = section + ", \"" + words + "\": ";
        check.due(place + "stands in the document", document.quote(section, words) ? 1 : 0, 1);
    }

    /** The last call of an exchange answered so. */
    void due(Trade x, int got, int want) {
        check.due(place + (got == want ? "" : "behind " + x.callsBeforeLast() + ": ") + x.lastCall(), got, want);
    }

    void dueConstant(String name, int got, int want) {
        check.due(place + name, got, want);
    }

    /** The last call answered an error or NONE, and left everything as it was. */
    void refused(Trade x, int got, int want) {
        due(x, got, want);
        leftAll(x, true);
    }

    /** The last call told something, or changed what is in no state, and left everything as it was. */
    void told(Trade x, int got, int want) {
        refused(x, got, want);
    }

    /** The last call is an act: one state more is in the history, and undo() restores all that was before it. */
    void acts(Trade x, int got, int want) {
        due(x, got, want);
        Trade with = x.againBut(0);
        due(with, with.count(18), x.againBut(1).count(18) + 1);
        String undone = Tale.of(() -> undone(x), true);
        check.due(place + x.lastCall() + " is undone", undone.equals(Tale.of(() -> x.againBut(1), true)) ? 1 : 0, 1);
    }

    private static Trade undone(Trade x) {
        Trade again = x.againBut(0);
        again.undo();
        return again;
    }

    /** The text is performed, but a thing of it is stopped: nothing but the latest stop is another one. */
    void stops(Trade x, String text, int number, int error) {
        x.clearText();
        x.typeAll(text);
        due(x, x.perform(), RiddleTrade.NOT_POSSIBLE);
        leftAll(x, false);
        x.perform();
        due(x, x.stopped(0), number);
        due(x, x.stopped(1), error);
    }

    private void leftAll(Trade x, boolean withStop) {
        String with = Tale.of(() -> x.againBut(0), withStop);
        String without = Tale.of(() -> x.againBut(1), withStop);
        boolean same = with.equals(without);
        check.due(place + (same ? "" : "behind " + x.callsBeforeLast() + ": ") + x.lastCall() + " left everything",
            same ? 1 : 0, 1);
        x.forgetLast();
    }

    void end() {
        List<String> rest = document.unquoted();
        for (String words : rest) {
            check.due("no test holds " + words, 1, 0);
        }
        System.out.println(sentences + " sentences");
        check.end();
    }
}
