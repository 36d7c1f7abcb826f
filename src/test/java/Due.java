/** Counts and prints the answers that are not as due. */
final class Due {
    private int calls;
    private int wrong;

    void due(String call, long got, long want) {
        calls++;
        if (got != want) {
            wrong++;
            System.out.println(call + " answered " + got + ", due is " + want);
        }
    }

    /** Checks all that an exchange tells, in order, for the values of 'what' from 0. */
    void dueRow(String call, int[] got, int... want) {
        due(call + ".length", got.length, want.length);
        for (int i = 0; i < Math.min(got.length, want.length); i++) {
            due(call + "[" + i + "]", got[i], want[i]);
        }
    }

    boolean anyWrong() {
        return wrong > 0;
    }

    void end() {
        System.out.println(calls + " answers, " + wrong + " not as due");
        if (wrong > 0) {
            System.exit(1);
        }
    }
}
