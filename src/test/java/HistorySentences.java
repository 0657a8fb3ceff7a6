/** What stands under "Terms" about the history and errors. */
final class HistorySentences {

    private final Sentences document;
    private final Checks checks;

    HistorySentences(Sentences document, Checks checks) {
        this.document = document;
        this.checks = checks;
    }

    void all() {
        document.in("Terms");
        document.namesNothingToTest("HISTORY");
        fourStates();
        eachChange();
        theOldest();
        oneSnapshot();
        theState();
        document.namesNothingToTest("ERRORS");
        constants();
        theFirstError();
        noneIsNoError();
        nothingChanges();
        document.namesNothingToTest("The constants:");
        unknown();
        outOfRange();
        full();
        none();
        document.namesNothingToTest(
                "Ahead of the calls `send`, `pause`, `sendBreak`, `disturb`, `clear`, `set`, `learn` the interface "
                + "says: ---- the wire.",
                "Ahead of the calls `type`, `clearText`, `perform` the interface says: ---- texts.",
                "Ahead of the calls `undo`, `keep`, `restore` the interface says: ---- history.",
                "Ahead of the calls `level`, `fall`, `sent`, `received`, `total` the interface says: ---- what there "
                + "is.",
                "Ahead of the calls `ifLength`, `goodLength`, `harm`, `ifSent` the interface says: ---- what would be; "
                + "nothing changes.");
    }

    private void fourStates() {
        document.says("A history of at most 4 states is kept.");
        ThirdVotes x = new ThirdVotes();
        checks.due("total(18)", x.total(18), 0);
        checks.due("undo()", x.undo(), -5);
        int[] states = {1, 2, 3, 4, 4, 4};
        for (int index = 0; index < states.length; index++) {
            x.pause(1);
            checks.due("total(18) behind change " + (index + 1), x.total(18), states[index]);
        }
        for (int left = 3; left >= 0; left--) {
            checks.due("undo()", x.undo(), left);
        }
        checks.due("undo()", x.undo(), -5);
        checks.due("total(5)", x.total(5), 2);
    }

    /** A change records the state before it: undo brings that back. */
    private void records(String name, ThirdVotes x, Call change) {
        String before = Story.ofState(x);
        int states = x.total(18);
        int answer = change.on(x);
        checks.holds(name + " answers no error, it answers " + answer, answer >= 0);
        checks.due("total(18) behind " + name, x.total(18), states + 1);
        x.undo();
        checks.same("what undo brings back behind " + name, Story.ofState(x), before);
    }

    private void recordsNothing(String name, ThirdVotes x, Call call, int answer) {
        int states = x.total(18);
        checks.due(name, call.on(x), answer);
        checks.due("total(18) behind " + name, x.total(18), states);
    }

    private static ThirdVotes withAWord() {
        ThirdVotes x = Checks.with(0, 80, 1, 6);
        x.send(85);
        Checks.write(x, "_3,2(0a)");
        return x;
    }

    private void eachChange() {
        document.says("Each call of a method that is described as a change, and that returns neither an error nor NONE, "
                + "records the state before it;");
        records("send", withAWord(), x -> x.send(7));
        records("pause", withAWord(), x -> x.pause(7));
        records("sendBreak", withAWord(), x -> x.sendBreak(7));
        records("disturb", withAWord(), x -> x.disturb(7, 7));
        records("clear", withAWord(), x -> x.clear());
        records("clear of an empty wire", new ThirdVotes(), x -> x.clear());
        records("set", withAWord(), x -> x.set(3, 2));
        records("learn", withAWord(), x -> x.learn());
        records("perform", withAWord(), x -> x.perform());
        ThirdVotes kept = withAWord();
        kept.keep();
        records("restore of the same state", kept, x -> x.restore());
        ThirdVotes cleared = new ThirdVotes();
        cleared.keep();
        cleared.sendBreak(4);
        records("restore of an empty wire", cleared, x -> x.restore());
        // An error, or NONE, records nothing.
        recordsNothing("send(256)", withAWord(), x -> x.send(256), -2);
        recordsNothing("pause(0)", withAWord(), x -> x.pause(0), -2);
        recordsNothing("sendBreak(0)", withAWord(), x -> x.sendBreak(0), -2);
        recordsNothing("disturb(50, 1)", withAWord(), x -> x.disturb(50, 1), -2);
        recordsNothing("set(5, 1)", withAWord(), x -> x.set(5, 1), -1);
        recordsNothing("set(1, 41)", withAWord(), x -> x.set(1, 41), -2);
        recordsNothing("set(1, 6)", withAWord(), x -> x.set(1, 6), -5);
        ThirdVotes learned = new ThirdVotes();
        learned.send(85);
        recordsNothing("learn() of the same length", learned, x -> x.learn(), -5);
        recordsNothing("learn() of nothing", new ThirdVotes(), x -> x.learn(), -5);
        recordsNothing("perform() without a text", new ThirdVotes(), x -> x.perform(), -100);
        recordsNothing("restore() without a snapshot", withAWord(), x -> x.restore(), -5);
        // What is not described as a change records nothing either.
        recordsNothing("type", withAWord(), x -> x.type('a'), 9);
        recordsNothing("clearText", withAWord(), x -> x.clearText(), 8);
        recordsNothing("keep", withAWord(), x -> x.keep(), 50);
        recordsNothing("level", withAWord(), x -> x.level(0), 0);
        recordsNothing("harm", learned, x -> x.harm(40), 0);
        recordsNothing("ifSent", learned, x -> x.ifSent(255), 1);
        ThirdVotes undone = withAWord();
        checks.due("undo()", undone.undo(), 2);
        checks.due("undo()", undone.undo(), 1);
    }

    private void theOldest() {
        document.says("if there are 4 already, the oldest one is dropped.");
        ThirdVotes x = new ThirdVotes();
        for (int word = 1; word <= 6; word++) {
            x.send(word);
        }
        // The states before the words 3 to 6 are left.
        for (int words = 5; words >= 2; words--) {
            checks.due("undo()", x.undo(), words - 2);
            checks.due("total(6)", x.total(6), words);
            checks.due("the last word", x.sent(words - 1), words);
        }
        checks.due("undo()", x.undo(), -5);
        checks.due("total(6)", x.total(6), 2);
        x.set(1, 4);
        x.set(1, 5);
        x.set(1, 6);
        x.keep();
        x.restore();
        x.restore();
        checks.due("undo()", x.undo(), 3);
        checks.due("undo()", x.undo(), 2);
        checks.due("undo()", x.undo(), 1);
        checks.due("undo()", x.undo(), 0);
        checks.due("total(1)", x.total(1), 4);
    }

    private void oneSnapshot() {
        document.says("There is one snapshot, empty at first.");
        ThirdVotes x = new ThirdVotes();
        x.pause(3);
        checks.due("restore()", x.restore(), -5);
        checks.due("total(5)", x.total(5), 3);
        checks.due("keep()", x.keep(), 3);
        x.pause(4);
        checks.due("keep()", x.keep(), 7);
        x.clear();
        checks.due("restore()", x.restore(), 7);
        checks.due("restore()", x.restore(), 7);
        // A snapshot of an empty wire is one all the same.
        ThirdVotes y = new ThirdVotes();
        checks.due("keep()", y.keep(), 0);
        y.pause(1);
        checks.due("restore()", y.restore(), 0);
    }

    private void theState() {
        document.says("The state is everything except the text, the history and the snapshot.");
        ThirdVotes x = Checks.with(0, 80, 1, 6);
        x.send(85);
        Checks.write(x, "_3");
        x.keep();
        String before = Story.ofState(x);
        checks.due("clear()", x.clear(), 50);
        x.send(7);
        Checks.write(x, ".12");
        checks.due("undo()", x.undo(), 3);
        checks.due("undo()", x.undo(), 2);
        checks.same("the state behind undo", Story.ofState(x), before);
        checks.due("total(19) behind undo", x.total(19), 3);
        checks.due("perform() behind undo", x.perform(), 62);
        // The snapshot holds another state than this one now, and undo leaves it.
        checks.due("restore()", x.restore(), 50);
        checks.same("the state behind restore", Story.ofState(x), before);
        checks.due("total(18) behind restore", x.total(18), 4);
        checks.due("total(19) behind restore", x.total(19), 3);
        checks.due("restore()", x.restore(), 50);
        checks.due("undo()", x.undo(), 3);
        checks.due("undo()", x.undo(), 2);
        checks.due("total(5) behind perform and undo", x.total(5), 62);
        x.keep();
        checks.due("undo()", x.undo(), 1);
        checks.due("total(5)", x.total(5), 50);
        checks.due("restore() of the later snapshot", x.restore(), 62);
        // All settings belong to it, and so does each level.
        ThirdVotes y = new ThirdVotes();
        y.send(9);
        y.disturb(159, 1);
        y.keep();
        before = Story.ofState(y);
        for (int[] change : new int[][] {{0, 99}, {1, 9}, {2, 1}, {3, 2}, {4, 1}}) {
            y.set(change[0], change[1]);
        }
        y.disturb(159, 1);
        checks.due("restore()", y.restore(), 160);
        checks.same("the state behind restore", Story.ofState(y), before);
    }

    private void constants() {
        document.says("Errors are reported by the constants below.");
        ThirdVotes x = new ThirdVotes();
        checks.due("set(5, 0)", x.set(5, 0), ThirdVotes.UNKNOWN);
        checks.due("pause(0)", x.pause(0), ThirdVotes.OUT_OF_RANGE);
        Checks.pauseUpTo(x, 1500);
        checks.due("pause(1)", x.pause(1), ThirdVotes.FULL);
        checks.due("fall(0)", x.fall(0), ThirdVotes.NONE);
    }

    private void theFirstError() {
        document.says("If several errors apply, the one that stands first in the @return line is returned.");
        ThirdVotes x = Checks.with(0, 640);
        Checks.pauseUpTo(x, 1500);
        int[] wrong = {-1, 256, 501, Integer.MIN_VALUE, Integer.MAX_VALUE};
        for (int argument : wrong) {
            checks.due("send(" + argument + ") on a full wire", x.send(argument), -2);
            checks.due("ifSent(" + argument + ") on a full wire", x.ifSent(argument), -2);
        }
        for (int argument : new int[] {0, -1, 501, Integer.MIN_VALUE, Integer.MAX_VALUE}) {
            checks.due("pause(" + argument + ") on a full wire", x.pause(argument), -2);
            checks.due("sendBreak(" + argument + ") on a full wire", x.sendBreak(argument), -2);
        }
        int[] unknown = {-1, 5, Integer.MIN_VALUE, Integer.MAX_VALUE};
        for (int setting : unknown) {
            checks.due("set(" + setting + ", -1)", x.set(setting, -1), -1);
            checks.due("set(" + setting + ", 1000)", x.set(setting, 1000), -1);
        }
        Checks.write(x, "01,02;");
        checks.due("perform() of a faulty text on a full wire", x.perform(), -105);
        Checks.write(x, "9(9(9(9(.9))))]");
        checks.due("perform() of a faulty text on a full wire", x.perform(), -114);
    }

    private void noneIsNoError() {
        document.says("NONE is not an error; it is returned only if no error applies.");
        ThirdVotes x = new ThirdVotes();
        checks.due("fall(-1) without falls", x.fall(-1), -2);
        checks.due("fall(0) without falls", x.fall(0), -5);
        checks.due("sent(-1) without words", x.sent(-1), -2);
        checks.due("sent(0) without words", x.sent(0), -5);
        checks.due("received(-1, 0) of nothing", x.received(-1, 0), -2);
        checks.due("received(0, -1) of nothing", x.received(0, -1), -2);
        checks.due("received(0, 5) of nothing", x.received(0, 5), -2);
        checks.due("received(0, 4) of nothing", x.received(0, 4), -5);
        checks.due("harm(0) without ticks", x.harm(0), -2);
        checks.due("harm(41) without ticks", x.harm(41), -2);
        checks.due("harm(40) without ticks", x.harm(40), -5);
        checks.due("set(5, 0)", x.set(5, 0), -1);
        checks.due("set(2, 0)", x.set(2, 0), -5);
        checks.due("perform() without a text", x.perform(), -100);
    }

    /** Full to the end, with a history, a snapshot, and a text of 60 characters. */
    private static ThirdVotes busy() {
        ThirdVotes x = Checks.with(0, 100, 1, 6, 2, 1);
        x.send(85);
        x.sendBreak(77);
        x.keep();
        x.disturb(3, 2);
        Checks.pauseUpTo(x, 1499);
        x.sendBreak(1);
        Checks.write(x, ".1,".repeat(19) + "2(x");
        return x;
    }

    private static ThirdVotes idle() {
        ThirdVotes x = new ThirdVotes();
        x.type('g');
        return x;
    }

    private void refuses(String name, Call call, int answer, boolean isBusy) {
        ThirdVotes x = isBusy ? busy() : idle();
        checks.due(name, call.on(x), answer);
        checks.same("all that there is behind " + name, Story.ofAll(x), Story.ofAll(isBusy ? busy() : idle()));
    }

    private void nothingChanges() {
        document.says("A method that returns an error or NONE changes nothing.");
        refuses("send(-1)", x -> x.send(-1), -2, true);
        refuses("send(3)", x -> x.send(3), -3, true);
        refuses("pause(0)", x -> x.pause(0), -2, true);
        refuses("pause(1)", x -> x.pause(1), -3, true);
        refuses("sendBreak(501)", x -> x.sendBreak(501), -2, true);
        refuses("sendBreak(1)", x -> x.sendBreak(1), -3, true);
        refuses("disturb(1461, 40)", x -> x.disturb(1461, 40), -2, true);
        refuses("disturb(-1, 40)", x -> x.disturb(-1, 40), -2, true);
        refuses("disturb(0, 0)", x -> x.disturb(0, 0), -2, true);
        refuses("disturb(0, 41)", x -> x.disturb(0, 41), -2, true);
        refuses("set(5, 1)", x -> x.set(5, 1), -1, true);
        refuses("set(0, 641)", x -> x.set(0, 641), -2, true);
        refuses("set(0, 100)", x -> x.set(0, 100), -5, true);
        refuses("learn()", x -> x.learn(), -5, false);
        refuses("type", x -> x.type('1'), -3, true);
        refuses("perform()", x -> x.perform(), -159, true);
        refuses("perform()", x -> x.perform(), -100, false);
        refuses("undo()", x -> x.undo(), -5, false);
        refuses("restore()", x -> x.restore(), -5, false);
        refuses("level(-1)", x -> x.level(-1), -2, true);
        refuses("fall(-1)", x -> x.fall(-1), -2, true);
        refuses("fall(99)", x -> x.fall(99), -5, true);
        refuses("sent(-1)", x -> x.sent(-1), -2, true);
        refuses("sent(1)", x -> x.sent(1), -5, true);
        refuses("received(0, 5)", x -> x.received(0, 5), -2, true);
        refuses("received(99, 4)", x -> x.received(99, 4), -5, true);
        refuses("total(20)", x -> x.total(20), -2, true);
        refuses("total(17)", x -> x.total(17), -5, false);
        refuses("ifLength(3, 0)", x -> x.ifLength(3, 0), -2, true);
        refuses("ifLength(16, 4)", x -> x.ifLength(16, 4), -2, true);
        refuses("goodLength(true)", x -> x.goodLength(true), -5, true);
        refuses("harm(41)", x -> x.harm(41), -2, true);
        refuses("harm(1)", x -> x.harm(1), -5, false);
        refuses("ifSent(256)", x -> x.ifSent(256), -2, true);
        refuses("ifSent(3)", x -> x.ifSent(3), -3, true);
        // Too long a program leaves nothing of what would have had room.
        ThirdVotes x = new ThirdVotes();
        Checks.pauseUpTo(x, 1420);
        Checks.write(x, "2(_3),.7,ff");
        String before = Story.ofState(x);
        checks.due("perform()", x.perform(), -3);
        checks.same("the state behind perform()", Story.ofState(x), before);
        checks.due("total(18)", x.total(18), 3);
    }

    private void unknown() {
        document.says("`UNKNOWN = -1`: There is no such setting.");
        checks.due("UNKNOWN", ThirdVotes.UNKNOWN, -1);
        ThirdVotes x = new ThirdVotes();
        checks.due("set(-1, 1)", x.set(-1, 1), -1);
        checks.due("set(0, 64)", x.set(0, 64), 256);
        checks.due("set(4, 1)", x.set(4, 1), 0);
        checks.due("set(5, 1)", x.set(5, 1), -1);
    }

    private void outOfRange() {
        document.says("`OUT_OF_RANGE = -2`: Another argument is out of its range.");
        checks.due("OUT_OF_RANGE", ThirdVotes.OUT_OF_RANGE, -2);
        ThirdVotes x = new ThirdVotes();
        checks.due("set(4, 2)", x.set(4, 2), -2);
        checks.due("total(-1), which is no setting", x.total(-1), -2);
        checks.due("total(20)", x.total(20), -2);
        checks.due("level(-1)", x.level(-1), -2);
    }

    private void full() {
        document.says("`FULL = -3`: There is no more room.");
        checks.due("FULL", ThirdVotes.FULL, -3);
        ThirdVotes x = new ThirdVotes();
        Checks.pauseUpTo(x, 1499);
        Checks.write(x, "0".repeat(60));
        checks.due("pause(2)", x.pause(2), -3);
        checks.due("sendBreak(2)", x.sendBreak(2), -3);
        checks.due("send(0)", x.send(0), -3);
        checks.due("ifSent(0)", x.ifSent(0), -3);
        checks.due("type('0')", x.type('0'), -3);
        Checks.write(x, ".2");
        checks.due("perform()", x.perform(), -3);
    }

    private void none() {
        document.says("`NONE = -5`: There is no such thing; this is not an error.");
        checks.due("NONE", ThirdVotes.NONE, -5);
        ThirdVotes x = new ThirdVotes();
        checks.due("fall(0)", x.fall(0), -5);
        checks.due("sent(0)", x.sent(0), -5);
        checks.due("received(0, 0)", x.received(0, 0), -5);
        checks.due("undo()", x.undo(), -5);
        checks.due("restore()", x.restore(), -5);
        checks.due("learn()", x.learn(), -5);
        checks.due("total(17)", x.total(17), -5);
        checks.due("harm(1)", x.harm(1), -5);
        x.sendBreak(1);
        checks.due("fall(0)", x.fall(0), 0);
        checks.due("fall(1)", x.fall(1), -5);
    }
}
