/** Counts the answers that are not as due, and ends a test. */
final class Checks {

    private final String test;
    private String about = "";
    private int made;
    private int wrong;

    Checks(String test) {
        this.test = test;
    }

    /** Tells what the checks that follow are about; it is printed with those that fail. */
    void about(String what) {
        about = " [" + what + "]";
    }

    void due(String call, int got, int want) {
        made++;
        if (got != want) {
            wrong++;
            System.out.println(test + ": " + call + " answered " + got + ", due is " + want + about);
        }
    }

    void holds(String what, boolean isSo) {
        made++;
        if (!isSo) {
            wrong++;
            System.out.println(test + ": it does not hold that " + what + about);
        }
    }

    void same(String what, String got, String want) {
        made++;
        if (!got.equals(want)) {
            wrong++;
            System.out.println(test + ": " + what + " are " + got + ", due are " + want + about);
        }
    }

    /** The levels from a tick on, told as a text of 0 and 1. */
    void levels(ThirdVotes x, int from, String want) {
        StringBuilder got = new StringBuilder();
        for (int tick = from; tick < from + want.length(); tick++) {
            got.append(x.level(tick));
        }
        same("the levels from " + from + " on", got.toString(), want);
    }

    /** Something received, with all that the document notes of it. */
    void received(ThirdVotes x, int rank, int kind, int word, int begin, int doubtful, int lastLook) {
        int[] want = {kind, word, begin, doubtful, lastLook};
        for (int what = 0; what < want.length; what++) {
            due("received(" + rank + ", " + what + ")", x.received(rank, what), want[what]);
        }
    }

    /** A new object with some settings, told as pairs of a setting and its value. */
    static ThirdVotes with(int... settings) {
        ThirdVotes x = new ThirdVotes();
        for (int index = 0; index + 1 < settings.length; index += 2) {
            x.set(settings[index], settings[index + 1]);
        }
        return x;
    }

    /** Puts levels, told as a text of 0 and 1, onto the wire: a run of up to 500 alike takes one call. */
    static void put(ThirdVotes x, String levels) {
        int from = 0;
        while (from < levels.length()) {
            char level = levels.charAt(from);
            int behind = from;
            while (behind < levels.length() && behind < from + 500 && levels.charAt(behind) == level) {
                behind++;
            }
            if (level == '0') {
                x.sendBreak(behind - from);
            } else {
                x.pause(behind - from);
            }
            from = behind;
        }
    }

    /** Types a text, whatever stood there before. */
    static void write(ThirdVotes x, String text) {
        x.clearText();
        for (int index = 0; index < text.length(); index++) {
            x.type(text.charAt(index));
        }
    }

    /** Fills the wire with pauses up to an end. */
    static void pauseUpTo(ThirdVotes x, int end) {
        for (int at = x.total(5); at < end; at += 500) {
            x.pause(Math.min(500, end - at));
        }
    }

    void close() {
        System.out.println(test + ": " + made + " checks, " + wrong + " wrong");
        if (wrong != 0 || made == 0) {
            System.exit(1);
        }
    }
}
