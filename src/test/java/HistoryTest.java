/** Promises 12 to 14: undo and the snapshot. */
public final class HistoryTest {

    private static final Checks CHECKS = new Checks("HistoryTest");

    public static void main(String[] args) {
        undoBringsBack();
        undoForgetsTheOldest();
        whatIsNoChange();
        whatIsAChange();
        keepAndRestore();
        snapshotStays();
        textStays();
        CHECKS.close();
    }

    private static void undoBringsBack() {
        ThirdVotes x = new ThirdVotes();
        x.send(77);
        x.disturb(20, 3);
        x.set(1, 20);
        x.clear();
        CHECKS.due("undo()", x.undo(), 3);
        CHECKS.due("total(5)", x.total(5), 160);
        CHECKS.due("sent(0)", x.sent(0), 77);
        CHECKS.due("total(1)", x.total(1), 20);
        CHECKS.levels(x, 18, "1100011");
        CHECKS.due("undo()", x.undo(), 2);
        CHECKS.due("total(1)", x.total(1), 16);
        CHECKS.due("undo()", x.undo(), 1);
        CHECKS.levels(x, 18, "1111111");
        CHECKS.due("undo()", x.undo(), 0);
        CHECKS.due("total(5)", x.total(5), 0);
        CHECKS.due("sent(0)", x.sent(0), -5);
        CHECKS.due("undo()", x.undo(), -5);
        CHECKS.due("total(18)", x.total(18), 0);
    }

    private static void undoForgetsTheOldest() {
        ThirdVotes x = new ThirdVotes();
        for (int ticks = 1; ticks <= 7; ticks++) {
            x.pause(ticks);
            CHECKS.due("total(18)", x.total(18), Math.min(ticks, 4));
        }
        int[] ends = {21, 15, 10, 6};
        for (int rank = 0; rank < ends.length; rank++) {
            CHECKS.due("undo()", x.undo(), 3 - rank);
            CHECKS.due("total(5)", x.total(5), ends[rank]);
        }
        CHECKS.due("undo()", x.undo(), -5);
        x.pause(1);
        x.pause(1);
        CHECKS.due("undo()", x.undo(), 1);
        CHECKS.due("total(5)", x.total(5), 7);
    }

    private static void whatIsNoChange() {
        ThirdVotes x = new ThirdVotes();
        x.send(85);
        x.keep();
        x.send(256);
        x.pause(0);
        x.sendBreak(501);
        x.disturb(160, 1);
        x.set(5, 1);
        x.set(0, 1);
        x.set(0, 256);
        x.learn();
        x.type('a');
        x.perform();
        x.clearText();
        x.keep();
        x.level(0);
        x.fall(0);
        x.sent(0);
        x.received(0, 0);
        x.ifLength(20, 0);
        x.goodLength(true);
        x.harm(5);
        x.ifSent(3);
        CHECKS.due("total(18)", x.total(18), 1);
        CHECKS.due("total(5)", x.total(5), 160);
    }

    private static void recorded(ThirdVotes x, String call, int answer, int states) {
        CHECKS.holds(call + " answers no error", answer >= 0);
        CHECKS.due("total(18) behind " + call, x.total(18), states);
    }

    private static void whatIsAChange() {
        ThirdVotes x = new ThirdVotes();
        Checks.write(x, ".1");
        recorded(x, "send", x.send(85), 1);
        recorded(x, "pause", x.pause(1), 2);
        recorded(x, "sendBreak", x.sendBreak(1), 3);
        recorded(x, "perform", x.perform(), 4);
        ThirdVotes y = new ThirdVotes();
        recorded(y, "clear of an empty wire", y.clear(), 1);
        recorded(y, "set", y.set(0, 320), 2);
        recorded(y, "send", y.send(85), 3);
        recorded(y, "learn", y.learn(), 4);
        ThirdVotes z = new ThirdVotes();
        z.pause(1);
        recorded(z, "disturb", z.disturb(0, 1), 2);
        recorded(z, "keep", z.keep(), 2);
        recorded(z, "restore", z.restore(), 3);
    }

    private static void keepAndRestore() {
        ThirdVotes x = new ThirdVotes();
        CHECKS.due("restore()", x.restore(), -5);
        CHECKS.due("total(18)", x.total(18), 0);
        x.send(18);
        x.set(4, 1);
        CHECKS.due("keep()", x.keep(), 160);
        CHECKS.due("total(18)", x.total(18), 2);
        x.disturb(0, 40);
        x.set(4, 0);
        x.send(19);
        CHECKS.due("restore()", x.restore(), 160);
        CHECKS.due("total(18)", x.total(18), 4);
        CHECKS.due("total(4)", x.total(4), 1);
        CHECKS.due("total(6)", x.total(6), 1);
        CHECKS.due("total(14)", x.total(14), 1);
        CHECKS.due("undo()", x.undo(), 3);
        CHECKS.due("total(6)", x.total(6), 2);
        CHECKS.due("total(4)", x.total(4), 0);
        CHECKS.due("sent(1)", x.sent(1), 19);
        CHECKS.due("keep()", x.keep(), 320);
        x.clear();
        CHECKS.due("restore()", x.restore(), 320);
        CHECKS.due("sent(1)", x.sent(1), 19);
    }

    private static void snapshotStays() {
        ThirdVotes x = new ThirdVotes();
        CHECKS.due("keep()", x.keep(), 0);
        x.sendBreak(30);
        CHECKS.due("restore()", x.restore(), 0);
        x.pause(9);
        x.undo();
        x.undo();
        x.undo();
        CHECKS.due("undo()", x.undo(), -5);
        x.pause(11);
        CHECKS.due("restore()", x.restore(), 0);
        CHECKS.due("restore() of the same state", x.restore(), 0);
        CHECKS.due("total(18)", x.total(18), 3);
    }

    private static void textStays() {
        ThirdVotes x = new ThirdVotes();
        Checks.write(x, ".7");
        x.keep();
        x.perform();
        x.type('0');
        x.undo();
        CHECKS.due("total(19) behind undo", x.total(19), 3);
        x.restore();
        CHECKS.due("total(19) behind restore", x.total(19), 3);
        CHECKS.due("perform()", x.perform(), 70);
    }
}
