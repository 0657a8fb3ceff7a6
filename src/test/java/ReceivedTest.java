/** Promises 15 to 19: what there is. */
public final class ReceivedTest {

    private static final Checks CHECKS = new Checks("ReceivedTest");

    public static void main(String[] args) {
        level();
        fall();
        sent();
        receivedWords();
        receivedWithParities();
        asManyAsThereCanBe();
        unstopped();
        breaks();
        breakAheadOfHigh();
        falseStarts();
        votes();
        oneVote();
        looksOfOddLengths();
        looksBeyondTheEnd();
        waitsBehindTheLastLook();
        receivedOutOfRange();
        total();
        allIsWell();
        CHECKS.close();
    }

    private static ThirdVotes withReceiver(int length) {
        return Checks.with(1, length);
    }

    private static void level() {
        ThirdVotes x = new ThirdVotes();
        CHECKS.due("level(0)", x.level(0), 1);
        x.sendBreak(3);
        CHECKS.levels(x, 0, "00011");
        CHECKS.due("level(-1)", x.level(-1), -2);
        CHECKS.due("level(least)", x.level(Integer.MIN_VALUE), -2);
        CHECKS.due("level(greatest)", x.level(Integer.MAX_VALUE), 1);
        x.clear();
        CHECKS.due("level(0) of a cleared wire", x.level(0), 1);
        x.sendBreak(500);
        x.sendBreak(500);
        x.sendBreak(500);
        CHECKS.levels(x, 1495, "000001");
        CHECKS.due("disturb(63, 2)", x.disturb(63, 2), 2);
        CHECKS.levels(x, 61, "001100");
    }

    private static void fall() {
        ThirdVotes x = new ThirdVotes();
        Checks.put(x, "0010110001");
        int[] falls = {0, 3, 6, -5};
        for (int rank = 0; rank < falls.length; rank++) {
            CHECKS.due("fall(" + rank + ")", x.fall(rank), falls[rank]);
        }
        CHECKS.due("fall(greatest)", x.fall(Integer.MAX_VALUE), -5);
        CHECKS.due("fall(-1)", x.fall(-1), -2);
        CHECKS.due("fall(least)", x.fall(Integer.MIN_VALUE), -2);
        CHECKS.due("total(15)", x.total(15), 3);
        x.disturb(0, 1);
        CHECKS.due("fall(0)", x.fall(0), 1);
        ThirdVotes y = new ThirdVotes();
        y.pause(9);
        CHECKS.due("fall(0) of a pause", y.fall(0), -5);
        y.sendBreak(1);
        CHECKS.due("fall(0) at the last tick", y.fall(0), 9);
    }

    private static void sent() {
        ThirdVotes x = new ThirdVotes();
        x.sendBreak(7);
        CHECKS.due("sent(0) behind a break", x.sent(0), -5);
        x.send(200);
        x.pause(7);
        Checks.write(x, "2(0a)");
        x.perform();
        int[] words = {200, 10, 10, -5};
        for (int rank = 0; rank < words.length; rank++) {
            CHECKS.due("sent(" + rank + ")", x.sent(rank), words[rank]);
        }
        CHECKS.due("sent(-1)", x.sent(-1), -2);
        CHECKS.due("sent(least)", x.sent(Integer.MIN_VALUE), -2);
        CHECKS.due("sent(greatest)", x.sent(Integer.MAX_VALUE), -5);
        x.disturb(0, 40);
        CHECKS.due("sent(0) behind a disturbance", x.sent(0), 200);
    }

    private static void receivedWords() {
        ThirdVotes x = new ThirdVotes();
        x.pause(10);
        x.send(85);
        x.send(170);
        x.pause(3);
        x.send(0);
        // The last look is 9 * 16 + 10 ticks behind the begin.
        CHECKS.received(x, 0, 0, 85, 10, 0, 164);
        CHECKS.received(x, 1, 0, 170, 170, 0, 324);
        CHECKS.received(x, 2, 0, 0, 333, 0, 487);
        CHECKS.due("received(3, 0)", x.received(3, 0), -5);
        CHECKS.due("total(7)", x.total(7), 3);
    }

    private static void receivedWithParities() {
        ThirdVotes x = new ThirdVotes();
        x.set(2, 1);
        x.send(7);
        x.send(3);
        CHECKS.received(x, 0, 0, 7, 0, 0, 170);
        CHECKS.received(x, 1, 0, 3, 176, 0, 346);
        x.set(2, 2);
        CHECKS.received(x, 0, 1, 7, 0, 0, 170);
        CHECKS.received(x, 1, 1, 3, 176, 0, 346);
        CHECKS.due("total(8)", x.total(8), 0);
        CHECKS.due("total(9)", x.total(9), 2);
        x.undo();
        x.disturb(16, 16);
        CHECKS.received(x, 0, 1, 6, 0, 0, 170);
        CHECKS.received(x, 1, 0, 3, 176, 0, 346);
        ThirdVotes y = new ThirdVotes();
        y.set(2, 2);
        y.send(7);
        y.send(3);
        CHECKS.received(y, 0, 0, 7, 0, 0, 170);
        CHECKS.received(y, 1, 0, 3, 176, 0, 346);
    }

    private static void asManyAsThereCanBe() {
        ThirdVotes x = withReceiver(4);
        for (int rank = 0; rank < 38; rank++) {
            x.sendBreak(36);
            x.pause(3);
        }
        x.sendBreak(18);
        CHECKS.due("total(7)", x.total(7), 39);
        CHECKS.due("total(8)", x.total(8), 39);
        CHECKS.received(x, 37, 0, 0, 1443, 0, 1481);
        // The low ticks from 1482 to 1499 are the start, three bits, and one look for the fourth one.
        CHECKS.received(x, 38, 0, 248, 1482, 1, 1520);
        CHECKS.due("received(39, 0)", x.received(39, 0), -5);
    }

    private static void unstopped() {
        ThirdVotes x = withReceiver(4);
        x.set(0, 64);
        x.send(1);
        x.disturb(36, 4);
        CHECKS.received(x, 0, 2, 1, 0, 0, 38);
        CHECKS.due("total(10)", x.total(10), 1);
        // The parity 0 is right for 3 and wrong for 1, but without a stop that does not count.
        ThirdVotes y = withReceiver(4);
        y.set(0, 64);
        y.sendBreak(4);
        y.pause(4);
        y.sendBreak(36);
        y.set(2, 1);
        CHECKS.received(y, 0, 2, 1, 0, 0, 42);
        y.set(2, 2);
        CHECKS.received(y, 0, 2, 1, 0, 0, 42);
        CHECKS.due("total(9)", y.total(9), 0);
    }

    private static void breaks() {
        ThirdVotes x = withReceiver(4);
        // The looks for the stop are at 37, 38 and 38 again.
        x.sendBreak(37);
        CHECKS.received(x, 0, 0, 0, 0, 0, 38);
        x.sendBreak(1);
        CHECKS.received(x, 0, 0, 0, 0, 1, 38);
        x.sendBreak(1);
        CHECKS.received(x, 0, 3, 0, 0, 0, 38);
        x.sendBreak(61);
        CHECKS.received(x, 0, 3, 0, 0, 0, 38);
        CHECKS.due("total(7) in a long break", x.total(7), 1);
        x.pause(1);
        x.sendBreak(39);
        CHECKS.received(x, 1, 3, 0, 101, 0, 139);
        CHECKS.due("total(11)", x.total(11), 2);
        CHECKS.due("total(7)", x.total(7), 2);
        x.set(2, 1);
        // Now the stop is the bit 10: from 101 + 40 on all is 1 again.
        CHECKS.received(x, 0, 3, 0, 0, 0, 42);
        CHECKS.received(x, 1, 0, 0, 101, 0, 143);
        x.set(2, 2);
        CHECKS.received(x, 1, 1, 0, 101, 0, 143);
    }

    private static void breakAheadOfHigh() {
        // At the last look of the break the level is 1: behind a break the next low level is no begin.
        ThirdVotes x = withReceiver(5);
        x.sendBreak(48);
        x.pause(1);
        x.sendBreak(6);
        x.pause(1);
        x.sendBreak(5);
        CHECKS.due("received(0, 0)", x.received(0, 0), 3);
        CHECKS.due("received(0, 3)", x.received(0, 3), 1);
        CHECKS.due("received(0, 4)", x.received(0, 4), 48);
        CHECKS.due("received(1, 2)", x.received(1, 2), 56);
        CHECKS.due("total(7)", x.total(7), 2);
        // With a bit that is 1 it is unstopped, and the fall right behind the last look is a begin.
        x.disturb(5, 5);
        CHECKS.due("received(0, 0)", x.received(0, 0), 2);
        CHECKS.due("received(0, 4)", x.received(0, 4), 48);
        CHECKS.due("received(1, 2)", x.received(1, 2), 49);
        ThirdVotes y = withReceiver(5);
        y.sendBreak(48);
        y.pause(1);
        y.sendBreak(1);
        y.pause(9);
        CHECKS.due("received(0, 0)", y.received(0, 0), 3);
        CHECKS.due("total(12)", y.total(12), 0);
        y.disturb(5, 5);
        CHECKS.due("received(0, 0)", y.received(0, 0), 2);
        CHECKS.due("total(12)", y.total(12), 1);
        // The level 1 right behind the last look of a break is enough.
        ThirdVotes z = withReceiver(5);
        z.sendBreak(49);
        z.pause(1);
        z.sendBreak(5);
        CHECKS.received(z, 0, 3, 0, 0, 0, 48);
        CHECKS.received(z, 1, 0, 255, 50, 0, 98);
    }

    private static void falseStarts() {
        ThirdVotes x = withReceiver(6);
        // The looks for the bit 0 are at 2, 3 and 4: the fall at the last one is no begin.
        Checks.put(x, "00110");
        CHECKS.due("total(12)", x.total(12), 1);
        x.disturb(2, 1);
        CHECKS.due("total(12)", x.total(12), 0);
        CHECKS.due("total(7)", x.total(7), 1);
        x.disturb(4, 1);
        CHECKS.due("total(12)", x.total(12), 1);
        CHECKS.due("total(7)", x.total(7), 0);
        CHECKS.due("total(13)", x.total(13), 0);
        CHECKS.due("total(14)", x.total(14), 1);
        ThirdVotes y = withReceiver(6);
        // Falls at 0, 2 and 5: that at 2 is looked over, that at 5 is right behind the third look.
        Checks.put(y, "0101101");
        CHECKS.due("total(12)", y.total(12), 2);
        y.pause(1);
        y.sendBreak(6);
        y.pause(60);
        CHECKS.due("received(0, 2)", y.received(0, 2), 5);
        CHECKS.due("total(12)", y.total(12), 1);
        y.pause(1);
        y.disturb(5, 1);
        CHECKS.received(y, 0, 0, 255, 8, 0, 66);
        CHECKS.due("total(12)", y.total(12), 1);
    }

    private static void votes() {
        int[][] doubts = {{5, 1}, {8, 1}, {10, 1}, {0, 0}, {4, 0}, {6, 0}, {7, 0}, {9, 0}, {11, 0}, {15, 0}};
        for (int[] doubt : doubts) {
            ThirdVotes x = new ThirdVotes();
            x.send(64);
            x.disturb(16 + doubt[0], 1);
            x.disturb(112 + doubt[0], 1);
            CHECKS.received(x, 0, 0, 64, 0, 2 * doubt[1], 154);
        }
        ThirdVotes y = new ThirdVotes();
        y.send(0);
        y.disturb(24, 3);
        CHECKS.received(y, 0, 0, 1, 0, 1, 154);
        y.disturb(5, 4);
        CHECKS.due("total(12)", y.total(12), 1);
        y.undo();
        y.disturb(8, 1);
        CHECKS.due("received(0, 3) with a doubtful start", y.received(0, 3), 2);
        y.disturb(149, 1);
        CHECKS.due("received(0, 3) with a doubtful stop", y.received(0, 3), 3);
        CHECKS.due("total(13)", y.total(13), 3);
        ThirdVotes z = new ThirdVotes();
        z.set(2, 1);
        z.send(0);
        z.disturb(152, 1);
        CHECKS.due("received(0, 3) with a doubtful parity", z.received(0, 3), 1);
        CHECKS.due("received(0, 0)", z.received(0, 0), 0);
        z.disturb(149, 1);
        CHECKS.due("received(0, 0) with a wrong parity", z.received(0, 0), 1);
    }

    private static void oneVote() {
        ThirdVotes x = new ThirdVotes();
        x.set(4, 1);
        x.send(0);
        x.disturb(24, 1);
        CHECKS.received(x, 0, 0, 1, 0, 1, 154);
        x.disturb(37, 1);
        x.disturb(42, 1);
        CHECKS.received(x, 0, 0, 1, 0, 2, 154);
        x.disturb(8, 1);
        CHECKS.due("total(12)", x.total(12), 1);
        // Then the fall behind the tick 24 is a begin.
        CHECKS.received(x, 0, 0, 192, 25, 1, 179);
        x.set(4, 0);
        CHECKS.received(x, 0, 0, 2, 0, 3, 154);
        // A false start is over behind its third look, also with one vote.
        ThirdVotes y = withReceiver(6);
        y.set(4, 1);
        Checks.put(y, "00011000001");
        CHECKS.due("total(12)", y.total(12), 1);
        CHECKS.due("received(0, 2)", y.received(0, 2), 5);
    }

    /** Sends a word of whole bits, and finds the ticks of its second bit at which it is told. */
    private static String looksIn(int length) {
        StringBuilder looks = new StringBuilder();
        for (int tick = 0; tick < length; tick++) {
            ThirdVotes x = withReceiver(length);
            x.set(0, 16 * length);
            x.send(2);
            x.disturb(length + tick, 1);
            if (x.total(13) > 0) {
                looks.append(tick).append(' ');
            }
        }
        return looks.toString();
    }

    private static void looksOfOddLengths() {
        int[] lengths = {4, 5, 7, 13, 16, 29, 40};
        String[] looks = {"1 2 ", "1 2 3 ", "2 3 4 ", "4 6 8 ", "5 8 10 ", "9 14 19 ", "13 20 26 "};
        for (int index = 0; index < lengths.length; index++) {
            String got = looksIn(lengths[index]);
            CHECKS.holds("the looks of the length " + lengths[index] + " are " + looks[index] + ", they are " + got,
                    got.equals(looks[index]));
        }
        // With 4 the second look and the third one are at the same tick, and outvote the first one.
        ThirdVotes x = withReceiver(4);
        x.set(0, 64);
        x.send(0);
        x.disturb(6, 1);
        CHECKS.received(x, 0, 0, 1, 0, 1, 38);
        x.undo();
        x.disturb(5, 1);
        CHECKS.received(x, 0, 0, 0, 0, 1, 38);
    }

    private static void looksBeyondTheEnd() {
        ThirdVotes x = withReceiver(40);
        x.sendBreak(27);
        CHECKS.received(x, 0, 0, 255, 0, 0, 386);
        x.clear();
        x.pause(499);
        x.pause(500);
        x.pause(500);
        x.sendBreak(1);
        CHECKS.due("total(12)", x.total(12), 1);
        x.set(1, 4);
        CHECKS.due("total(12)", x.total(12), 1);
        x.disturb(1497, 3);
        CHECKS.due("fall(0)", x.fall(0), 1497);
        x.disturb(1499, 1);
        CHECKS.received(x, 0, 0, 255, 1497, 0, 1535);
    }

    private static void waitsBehindTheLastLook() {
        // Low up to the stop, whose looks are at 37, 38 and 38: the fall at 39 is right behind them.
        ThirdVotes x = withReceiver(4);
        x.sendBreak(36);
        x.pause(3);
        x.sendBreak(4);
        CHECKS.received(x, 0, 0, 0, 0, 0, 38);
        CHECKS.received(x, 1, 0, 255, 39, 0, 77);
        // A fall at the last look is no begin, nor is the low level behind it.
        ThirdVotes y = withReceiver(5);
        y.sendBreak(45);
        y.pause(3);
        y.sendBreak(7);
        CHECKS.due("received(0, 3)", y.received(0, 3), 1);
        CHECKS.due("received(0, 0)", y.received(0, 0), 0);
        CHECKS.due("total(7)", y.total(7), 1);
        CHECKS.due("total(12)", y.total(12), 0);
    }

    private static void receivedOutOfRange() {
        ThirdVotes x = new ThirdVotes();
        x.send(1);
        int[][] wrong = {{-1, 0}, {0, -1}, {0, 5}, {9, 5}, {-1, 9}, {Integer.MIN_VALUE, 0}, {0, Integer.MIN_VALUE},
            {0, Integer.MAX_VALUE}};
        for (int[] call : wrong) {
            CHECKS.due("received(" + call[0] + ", " + call[1] + ")", x.received(call[0], call[1]), -2);
        }
        for (int what = 0; what < 5; what++) {
            CHECKS.due("received(1, " + what + ")", x.received(1, what), -5);
            CHECKS.due("received(greatest, " + what + ")", x.received(Integer.MAX_VALUE, what), -5);
        }
    }

    private static void total() {
        ThirdVotes x = new ThirdVotes();
        x.set(0, 64);
        x.set(1, 4);
        x.set(2, 1);
        x.send(7);
        x.send(0);
        x.send(3);
        x.pause(4);
        x.sendBreak(50);
        x.pause(10);
        x.sendBreak(1);
        x.pause(9);
        Checks.write(x, "12,");
        // The second word gets a wrong parity, the third one no stop, and a bit of the first one a doubt.
        x.disturb(44 + 36, 4);
        x.disturb(88 + 40, 4);
        x.disturb(5, 1);
        x.keep();
        int lowTicks = (4 + 1 + 20) + 36 + (4 + 32) + 50 + 1;
        // The falls are at 0, 5, 16, 44, 88, 100, 136 and 196.
        int[] totals = {64, 4, 1, 1, 0, 206, 3, 4, 1, 1, 1, 1, 1, 1, 0, 8, lowTicks, (88 + 4) / 8, 4, 3};
        for (int what = 0; what < totals.length; what++) {
            CHECKS.due("total(" + what + ")", x.total(what), totals[what]);
        }
        int[] wrong = {-1, 20, Integer.MIN_VALUE, Integer.MAX_VALUE};
        for (int what : wrong) {
            CHECKS.due("total(" + what + ")", x.total(what), -2);
        }
    }

    private static void allIsWell() {
        ThirdVotes x = new ThirdVotes();
        x.send(5);
        x.send(6);
        CHECKS.due("total(14)", x.total(14), 1);
        x.pause(2);
        x.sendBreak(2);
        x.pause(20);
        CHECKS.due("total(12)", x.total(12), 1);
        CHECKS.due("total(14) with a false start", x.total(14), 1);
        x.sendBreak(16);
        CHECKS.due("total(14) with a good word that was not sent", x.total(14), 0);
        x.undo();
        x.sendBreak(200);
        CHECKS.due("total(14) with a break", x.total(14), 0);
        x.undo();
        x.disturb(16, 16);
        CHECKS.due("total(14) with another word", x.total(14), 0);
        x.undo();
        x.disturb(144, 16);
        CHECKS.due("total(14) without a stop", x.total(14), 0);
        ThirdVotes y = new ThirdVotes();
        y.send(5);
        y.disturb(0, 16);
        CHECKS.due("total(14) with a word that is not received", y.total(14), 0);
        y.clear();
        CHECKS.due("total(14) of a cleared wire", y.total(14), 1);
        y.set(2, 1);
        y.send(5);
        CHECKS.due("total(14) with a parity", y.total(14), 1);
        y.set(2, 2);
        CHECKS.due("total(14) with a wrong parity", y.total(14), 0);
    }
}
