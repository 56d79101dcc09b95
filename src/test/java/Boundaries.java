import java.util.function.IntSupplier;

/** What the tests of boundary cases share: a check bears the words of the document that it holds the program to. */
abstract class Boundaries {
    static final int BAD = VillageLog.INVALID_ARGUMENT;
    static final int ILLEGAL = VillageLog.ILLEGAL_STATE;
    static final int FULL = VillageLog.CAPACITY_EXCEEDED;
    static final int NONE = VillageLog.NONE;

    /** Out of every range that begins with 0. */
    static final int[] STRANGE = {-1, -2, -3, -9, Integer.MIN_VALUE, Integer.MAX_VALUE, 1 << 16, 1 << 30};

    /** How many elders are more than half of a council, by its size. */
    static final int[] MAJORITY = {0, 1, 2, 2, 3, 3};

    private static final Checks CHECKS = new Checks();
    private static String sentence = "";

    /** The checks from here on are those of these words, which stand under this heading in one sentence. */
    static void says(String heading, String words) {
        sentence = heading + ": \"" + words + "\": ";
        CHECKS.holds(sentence + "that it stands in the document", Document.says(heading, words));
    }

    static void due(String call, long got, long want) {
        CHECKS.due(sentence + call, got, want);
    }

    static void holds(String what, boolean is) {
        CHECKS.holds(sentence + what, is);
    }

    static void same(String what, String got, String want) {
        CHECKS.holds(sentence + what + " (it is " + got + ", due is " + want + ")", got.equals(want));
    }

    /** A call that is an action: it records the state before it, and undo() restores that. */
    static void isAction(VillageLog log, String call, IntSupplier action, int want) {
        String before = Villages.seen(log);
        int states = log.count(10);
        due(call, action.getAsInt(), want);
        due("states after " + call, log.count(10), Math.min(5, states + 1));
        due("undo() of " + call, log.undo(), Math.min(4, states));
        same("the state before " + call, Villages.seen(log), before);
    }

    /** The state of the lot after a draw, reckoned without a number that could wrap around. */
    static int after(int state) {
        return (int) ((state * 25173L + 13849L) % 65536L);
    }

    /** The smallest state of the lot with which a draw from so many candidates has this place. */
    static int stateFor(int place, int candidates) {
        for (int state = 0; state < 65536; state++) {
            if (after(state) % candidates == place) {
                return state;
            }
        }
        throw new IllegalArgumentException("no state draws " + place + " of " + candidates);
    }

    /** The state of the lot that a draw turns into this one. */
    static int stateBefore(int state) {
        for (int before = 0; before < 65536; before++) {
            if (after(before) == state) {
                return before;
            }
        }
        throw new IllegalArgumentException("no state comes before " + state);
    }

    static void end(String test) {
        CHECKS.end(test);
    }
}
