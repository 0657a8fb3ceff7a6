/** Promises 20 to 23: what would be. */
public final class WouldBeTest {

    private static final Checks CHECKS = new Checks("WouldBeTest");

    public static void main(String[] args) {
        ifLength();
        ifLengthOutOfRange();
        goodLength();
        harm();
        harmWithoutRoom();
        harmWhereAllIsNotWell();
        harmOutOfRange();
        ifSent();
        ifSentFull();
        nothingChanges();
        CHECKS.close();
    }

    private static void ifLength() {
        ThirdVotes x = new ThirdVotes();
        x.send(0);
        x.send(255);
        x.disturb(21, 1);
        int[] now = {2, 2, 1, 1};
        for (int what = 0; what < now.length; what++) {
            CHECKS.due("ifLength(16, " + what + ")", x.ifLength(16, what), now[what]);
        }
        // With 32 all the low ticks of the word 0 are its start and four bits more.
        CHECKS.due("ifLength(32, 0)", x.ifLength(32, 0), 1);
        CHECKS.due("ifLength(32, 1)", x.ifLength(32, 1), 1);
        CHECKS.due("ifLength(32, 3)", x.ifLength(32, 3), 0);
        // With 40 the looks for the bit 3 are at 133, 140 and 146, those for the bit 4 at 173, 180 and 186.
        CHECKS.due("ifLength(40, 1)", x.ifLength(40, 1), 1);
        CHECKS.due("ifLength(40, 2)", x.ifLength(40, 2), 2);
        // With 4 the first word is a break; the start of the second one is four bits, and 248 is told.
        x.undo();
        CHECKS.due("ifLength(4, 0)", x.ifLength(4, 0), 2);
        CHECKS.due("ifLength(4, 1)", x.ifLength(4, 1), 1);
        CHECKS.due("ifLength(4, 2)", x.ifLength(4, 2), 0);
        CHECKS.due("total(1)", x.total(1), 16);
        x.set(4, 1);
        x.disturb(8, 1);
        CHECKS.due("ifLength(16, 0) with one vote", x.ifLength(16, 0), 1);
    }

    private static void ifLengthOutOfRange() {
        ThirdVotes x = new ThirdVotes();
        int[][] wrong = {{3, 0}, {41, 0}, {16, -1}, {16, 4}, {Integer.MIN_VALUE, 0}, {Integer.MAX_VALUE, 0},
            {16, Integer.MIN_VALUE}, {16, Integer.MAX_VALUE}};
        for (int[] call : wrong) {
            CHECKS.due("ifLength(" + call[0] + ", " + call[1] + ")", x.ifLength(call[0], call[1]), -2);
        }
        CHECKS.due("ifLength(4, 3)", x.ifLength(4, 3), 1);
        CHECKS.due("ifLength(40, 0)", x.ifLength(40, 0), 0);
    }

    private static void goodLength() {
        ThirdVotes x = new ThirdVotes();
        CHECKS.due("goodLength(false)", x.goodLength(false), 4);
        CHECKS.due("goodLength(true)", x.goodLength(true), 40);
        x.send(85);
        int least = 0;
        int greatest = 0;
        for (int length = 40; length >= 4; length--) {
            if (x.ifLength(length, 3) == 1) {
                least = length;
                greatest = Math.max(greatest, length);
            }
        }
        CHECKS.due("goodLength(false)", x.goodLength(false), least);
        CHECKS.due("goodLength(true)", x.goodLength(true), greatest);
        CHECKS.holds("16 is in between", least <= 16 && greatest >= 16);
        ThirdVotes y = new ThirdVotes();
        y.send(255);
        // A start of 16 ticks: the looks of the bit 0 at r / 3 and r / 2 are ahead of 16 up to r = 31,
        // and 255 is told then as long as two looks of the bit 1 are behind it.
        CHECKS.due("goodLength(true) of 255", y.goodLength(true), 31);
        CHECKS.due("goodLength(false) of 255", y.goodLength(false), 11);
        y.sendBreak(300);
        CHECKS.due("goodLength(true) with a break", y.goodLength(true), -5);
        CHECKS.due("goodLength(false) with a break", y.goodLength(false), -5);
    }

    private static void harm() {
        ThirdVotes x = new ThirdVotes();
        x.pause(3);
        x.send(0);
        CHECKS.due("harm(1)", x.harm(1), -5);
        CHECKS.due("harm(2)", x.harm(2), -5);
        CHECKS.due("harm(3)", x.harm(3), 11);
        // Four ticks from 8 on are two looks of the start, at 8 and 11.
        CHECKS.due("harm(4)", x.harm(4), 8);
        CHECKS.due("harm(40)", x.harm(40), 0);
        x.set(4, 1);
        CHECKS.due("harm(1) with one vote", x.harm(1), 11);
        CHECKS.due("harm(2) with one vote", x.harm(2), 10);
    }

    private static void harmWithoutRoom() {
        ThirdVotes x = new ThirdVotes();
        CHECKS.due("harm(1)", x.harm(1), -5);
        x.set(1, 4);
        x.pause(2);
        CHECKS.due("harm(3)", x.harm(3), -5);
        CHECKS.due("harm(2)", x.harm(2), -5);
        x.pause(1);
        // Low at 0, 1 and 2 is a start; two ticks, at 0 and 1 or at 1 and 2, are false starts.
        CHECKS.due("harm(2)", x.harm(2), -5);
        CHECKS.due("harm(3)", x.harm(3), 0);
        CHECKS.due("harm(4)", x.harm(4), -5);
        x.undo();
        // The last ticks count, and those behind the end do not.
        x.pause(20);
        x.set(1, 6);
        CHECKS.due("harm(4)", x.harm(4), 0);
        CHECKS.due("harm(22)", x.harm(22), 0);
        CHECKS.due("harm(23)", x.harm(23), -5);
    }

    private static void harmWhereAllIsNotWell() {
        ThirdVotes x = new ThirdVotes();
        x.sendBreak(16);
        CHECKS.due("total(14)", x.total(14), 0);
        CHECKS.due("harm(1)", x.harm(1), 0);
        // With all of the break disturbed all would be well.
        CHECKS.due("harm(16)", x.harm(16), -5);
        CHECKS.due("harm(15)", x.harm(15), -5);
        x.pause(30);
        // Low are the ticks ahead of the disturbance, and as many from 16 on: the start at 0 is told
        // by the looks at 5 and 8 if these are nine.
        CHECKS.due("harm(16)", x.harm(16), 9);
    }

    private static void harmOutOfRange() {
        ThirdVotes x = new ThirdVotes();
        x.send(3);
        int[] wrong = {0, -1, 41, Integer.MIN_VALUE, Integer.MAX_VALUE};
        for (int ticks : wrong) {
            CHECKS.due("harm(" + ticks + ")", x.harm(ticks), -2);
        }
    }

    private static void ifSent() {
        ThirdVotes x = new ThirdVotes();
        CHECKS.due("ifSent(3)", x.ifSent(3), 1);
        x.send(3);
        x.send(4);
        x.send(3);
        CHECKS.due("ifSent(3)", x.ifSent(3), 3);
        CHECKS.due("ifSent(4)", x.ifSent(4), 2);
        CHECKS.due("ifSent(0)", x.ifSent(0), 1);
        CHECKS.due("ifSent(255)", x.ifSent(255), 1);
        // The first one is told as 2 then.
        x.disturb(16, 16);
        CHECKS.due("ifSent(3)", x.ifSent(3), 2);
        int[] wrong = {-1, 256, Integer.MIN_VALUE, Integer.MAX_VALUE};
        for (int word : wrong) {
            CHECKS.due("ifSent(" + word + ")", x.ifSent(word), -2);
        }
        x.set(1, 40);
        x.clear();
        CHECKS.due("ifSent(3) with another length", x.ifSent(3), 0);
        x.set(1, 16);
        x.set(2, 2);
        CHECKS.due("ifSent(3) with a parity", x.ifSent(3), 1);
    }

    private static void ifSentFull() {
        ThirdVotes x = new ThirdVotes();
        Checks.pauseUpTo(x, 1340);
        CHECKS.due("ifSent(3)", x.ifSent(3), 1);
        x.pause(1);
        CHECKS.due("ifSent(3)", x.ifSent(3), -3);
        CHECKS.due("ifSent(256)", x.ifSent(256), -2);
        CHECKS.due("ifSent(-1)", x.ifSent(-1), -2);
    }

    private static void nothingChanges() {
        ThirdVotes x = new ThirdVotes();
        x.send(85);
        x.set(1, 17);
        x.ifLength(20, 2);
        x.goodLength(true);
        x.goodLength(false);
        x.harm(1);
        x.harm(9);
        x.ifSent(7);
        int[] totals = {256, 17, 0, 1, 0, 160, 1, 1};
        for (int what = 0; what < totals.length; what++) {
            CHECKS.due("total(" + what + ")", x.total(what), totals[what]);
        }
        CHECKS.due("total(18)", x.total(18), 2);
        CHECKS.due("sent(1)", x.sent(1), -5);
        CHECKS.levels(x, 15, "0111");
        CHECKS.levels(x, 158, "11111111111111111111");
        x.pause(30);
        CHECKS.due("total(16) behind what would be", x.total(16), 80);
    }
}
