/** Counts the answers that are not as due, and ends a test. */
final class Checks {

    private final String test;
    private int made;
    private int wrong;

    Checks(String test) {
        this.test = test;
    }

    void due(String call, int got, int want) {
        made++;
        if (got != want) {
            wrong++;
            System.out.println(test + ": " + call + " answered " + got + ", due is " + want);
        }
    }

    void holds(String what, boolean isSo) {
        made++;
        if (!isSo) {
            wrong++;
            System.out.println(test + ": it does not hold that " + what);
        }
    }

    /** The levels from a tick on, told as a text of 0 and 1. */
    void levels(ThirdVotes x, int from, String want) {
        StringBuilder got = new StringBuilder();
        for (int tick = from; tick < from + want.length(); tick++) {
            got.append(x.level(tick));
        }
        made++;
        if (!got.toString().equals(want)) {
            wrong++;
            System.out.println(test + ": the levels from " + from + " on are " + got + ", due are " + want);
        }
    }

    /** Something received, with all that the document notes of it. */
    void received(ThirdVotes x, int rank, int kind, int word, int begin, int doubtful, int lastLook) {
        int[] want = {kind, word, begin, doubtful, lastLook};
        for (int what = 0; what < want.length; what++) {
            due("received(" + rank + ", " + what + ")", x.received(rank, what), want[what]);
        }
    }

    /** Types a text, whatever stood there before. */
    static void write(ThirdVotes x, String text) {
        x.clearText();
        for (int index = 0; index < text.length(); index++) {
            x.type(text.charAt(index));
        }
    }

    /** Fills the wire with pauses up to an end. */
    static void pauseUpTo(ThirdVotes x, int end) {
        while (x.total(5) < end) {
            x.pause(Math.min(500, end - x.total(5)));
        }
    }

    void close() {
        System.out.println(test + ": " + made + " checks, " + wrong + " wrong");
        if (wrong != 0 || made == 0) {
            System.exit(1);
        }
    }
}
