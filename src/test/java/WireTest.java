/** Promises 2 to 8: what puts something onto the wire, and the settings. */
public final class WireTest {

    private static final Checks CHECKS = new Checks("WireTest");

    public static void main(String[] args) {
        sendWithWholeLengths();
        sendWithPartsOfTicks();
        sendWithParitiesAndStops();
        sendOutOfRange();
        sendFull();
        pauseAndBreak();
        pauseAndBreakFull();
        disturb();
        disturbOutOfRange();
        clear();
        set();
        setOutOfRange();
        setLeavesTheWire();
        learn();
        learnNothing();
        CHECKS.close();
    }

    private static ThirdVotes withLengths(int sender, int receiver) {
        return Checks.with(0, sender, 1, receiver);
    }

    private static void sendWithWholeLengths() {
        ThirdVotes x = withLengths(64, 4);
        CHECKS.due("send(0xb1)", x.send(0xb1), 40);
        CHECKS.levels(x, 0, "0000" + "1111" + "0000" + "0000" + "0000" + "1111" + "1111" + "0000"
                + "1111" + "1111" + "11");
        CHECKS.due("send(0)", x.send(0), 80);
        CHECKS.due("send(255)", x.send(255), 120);
        CHECKS.levels(x, 38, "11" + "000000000000000000000000000000000000" + "1111" + "0000" + "1111");
        CHECKS.due("total(6)", x.total(6), 3);
        CHECKS.due("sent(0)", x.sent(0), 0xb1);
        CHECKS.due("sent(1)", x.sent(1), 0);
        CHECKS.due("sent(2)", x.sent(2), 255);
    }

    private static void sendWithPartsOfTicks() {
        ThirdVotes x = withLengths(70, 4);
        // The bits begin at 0, 4, 8, 13, 17, 21, 26, 30, 35 and 39; the end is 43.75, rounded down.
        String word85 = "0000" + "1111" + "00000" + "1111" + "0000" + "11111" + "0000" + "11111" + "0000" + "1111";
        CHECKS.due("send(85)", x.send(85), 43);
        CHECKS.due("send(85)", x.send(85), 86);
        CHECKS.levels(x, 0, word85 + word85 + "11");
        x.clear();
        x.set(0, 640);
        CHECKS.due("send(1)", x.send(1), 400);
        CHECKS.levels(x, 38, "001");
        CHECKS.levels(x, 78, "110");
        CHECKS.levels(x, 358, "0011");
    }

    private static void sendWithParitiesAndStops() {
        ThirdVotes x = withLengths(64, 4);
        x.set(2, 1);
        CHECKS.due("send(7)", x.send(7), 44);
        CHECKS.levels(x, 32, "0000" + "1111" + "1111" + "1");
        CHECKS.due("send(3)", x.send(3), 88);
        CHECKS.levels(x, 76, "0000" + "0000" + "1111" + "1");
        CHECKS.due("send(0)", x.send(0), 132);
        CHECKS.levels(x, 124, "0000" + "1111" + "1");
        x.set(2, 2);
        x.set(3, 2);
        x.clear();
        CHECKS.due("send(7)", x.send(7), 48);
        CHECKS.levels(x, 32, "0000" + "0000" + "1111" + "1111");
        CHECKS.due("send(3)", x.send(3), 96);
        CHECKS.levels(x, 80, "0000" + "1111" + "1111" + "1111");
        x.set(2, 0);
        CHECKS.due("send(0)", x.send(0), 140);
        CHECKS.levels(x, 96, "000000000000000000000000000000000000" + "11111111" + "1");
    }

    private static void sendOutOfRange() {
        ThirdVotes x = new ThirdVotes();
        int[] wrong = {-1, 256, Integer.MIN_VALUE, Integer.MAX_VALUE};
        for (int word : wrong) {
            CHECKS.due("send(" + word + ")", x.send(word), -2);
        }
        CHECKS.due("total(5)", x.total(5), 0);
        CHECKS.due("total(6)", x.total(6), 0);
        CHECKS.due("total(18)", x.total(18), 0);
    }

    private static void sendFull() {
        ThirdVotes x = new ThirdVotes();
        Checks.pauseUpTo(x, 1340);
        x.keep();
        CHECKS.due("send(9)", x.send(9), 1500);
        CHECKS.due("send(9)", x.send(9), -3);
        CHECKS.due("send(256)", x.send(256), -2);
        CHECKS.due("undo()", x.undo(), 3);
        x.pause(1);
        CHECKS.due("total(18)", x.total(18), 4);
        CHECKS.due("send(9)", x.send(9), -3);
        CHECKS.due("total(5)", x.total(5), 1341);
        CHECKS.due("total(6)", x.total(6), 0);
        ThirdVotes y = withLengths(64, 4);
        for (int sent = 1; sent <= 37; sent++) {
            CHECKS.due("send(" + sent + ")", y.send(sent), 40 * sent);
        }
        CHECKS.due("send(38)", y.send(38), -3);
        CHECKS.due("total(6)", y.total(6), 37);
        CHECKS.due("sent(36)", y.sent(36), 37);
        CHECKS.due("sent(37)", y.sent(37), -5);
        CHECKS.due("total(14)", y.total(14), 1);
    }

    private static void pauseAndBreak() {
        ThirdVotes x = new ThirdVotes();
        CHECKS.due("pause(1)", x.pause(1), 1);
        CHECKS.due("sendBreak(1)", x.sendBreak(1), 2);
        CHECKS.due("pause(3)", x.pause(3), 5);
        CHECKS.due("sendBreak(500)", x.sendBreak(500), 505);
        CHECKS.due("pause(500)", x.pause(500), 1005);
        CHECKS.levels(x, 0, "1011100");
        CHECKS.levels(x, 503, "001");
        CHECKS.due("total(16)", x.total(16), 501);
        CHECKS.due("total(6)", x.total(6), 0);
        int[] wrong = {0, -1, 501, Integer.MIN_VALUE, Integer.MAX_VALUE};
        for (int ticks : wrong) {
            CHECKS.due("pause(" + ticks + ")", x.pause(ticks), -2);
            CHECKS.due("sendBreak(" + ticks + ")", x.sendBreak(ticks), -2);
        }
        CHECKS.due("total(5)", x.total(5), 1005);
    }

    private static void pauseAndBreakFull() {
        ThirdVotes x = new ThirdVotes();
        Checks.pauseUpTo(x, 1400);
        CHECKS.due("pause(101)", x.pause(101), -3);
        CHECKS.due("sendBreak(101)", x.sendBreak(101), -3);
        CHECKS.due("pause(501)", x.pause(501), -2);
        CHECKS.due("sendBreak(501)", x.sendBreak(501), -2);
        CHECKS.due("total(18)", x.total(18), 3);
        CHECKS.due("pause(100)", x.pause(100), 1500);
        CHECKS.due("pause(1)", x.pause(1), -3);
        x.undo();
        CHECKS.due("sendBreak(100)", x.sendBreak(100), 1500);
        CHECKS.due("sendBreak(1)", x.sendBreak(1), -3);
        CHECKS.levels(x, 1398, "1100");
        CHECKS.levels(x, 1498, "0011");
    }

    private static void disturb() {
        ThirdVotes x = new ThirdVotes();
        x.pause(5);
        x.sendBreak(5);
        CHECKS.due("disturb(3, 5)", x.disturb(3, 5), 3);
        CHECKS.levels(x, 0, "1110011100" + "1");
        CHECKS.due("disturb(9, 1)", x.disturb(9, 1), 1);
        CHECKS.due("disturb(0, 10)", x.disturb(0, 10), 3);
        CHECKS.levels(x, 0, "0001100010" + "1");
        x.pause(40);
        CHECKS.due("disturb(10, 40)", x.disturb(10, 40), 0);
        CHECKS.due("total(16)", x.total(16), 47);
        CHECKS.due("total(18)", x.total(18), 4);
        x.undo();
        CHECKS.due("total(16)", x.total(16), 7);
    }

    private static void disturbOutOfRange() {
        ThirdVotes x = new ThirdVotes();
        CHECKS.due("disturb(0, 1)", x.disturb(0, 1), -2);
        x.pause(100);
        int[][] wrong = {{-1, 1}, {0, 0}, {0, -1}, {0, 41}, {61, 40}, {100, 1}, {101, 1}, {99, 2},
            {Integer.MAX_VALUE, 1}, {Integer.MAX_VALUE, 40}, {Integer.MIN_VALUE, 40},
            {0, Integer.MAX_VALUE}, {0, Integer.MIN_VALUE}, {Integer.MAX_VALUE, Integer.MAX_VALUE}};
        for (int[] pair : wrong) {
            CHECKS.due("disturb(" + pair[0] + ", " + pair[1] + ")", x.disturb(pair[0], pair[1]), -2);
        }
        CHECKS.due("total(18)", x.total(18), 1);
        CHECKS.due("total(16)", x.total(16), 0);
        CHECKS.due("disturb(60, 40)", x.disturb(60, 40), 0);
        CHECKS.due("disturb(99, 1)", x.disturb(99, 1), 1);
    }

    private static void clear() {
        ThirdVotes x = new ThirdVotes();
        CHECKS.due("clear()", x.clear(), 0);
        CHECKS.due("total(18)", x.total(18), 1);
        x.set(2, 1);
        x.send(8);
        x.disturb(0, 8);
        CHECKS.due("clear()", x.clear(), 176);
        CHECKS.due("total(5)", x.total(5), 0);
        CHECKS.due("total(6)", x.total(6), 0);
        CHECKS.due("total(2)", x.total(2), 1);
        CHECKS.due("sent(0)", x.sent(0), -5);
        CHECKS.due("total(16)", x.total(16), 0);
        x.pause(20);
        CHECKS.due("total(16)", x.total(16), 0);
        x.undo();
        x.undo();
        CHECKS.due("sent(0)", x.sent(0), 8);
        CHECKS.due("total(5)", x.total(5), 176);
        CHECKS.levels(x, 0, "1111111100000000");
    }

    private static void set() {
        ThirdVotes x = new ThirdVotes();
        int[][] calls = {{0, 64, 256}, {0, 640, 64}, {0, 640, -5}, {1, 4, 16}, {1, 40, 4}, {1, 40, -5},
            {2, 1, 0}, {2, 2, 1}, {2, 2, -5}, {2, 0, 2}, {3, 1, -5}, {3, 2, 1}, {3, 1, 2},
            {4, 0, -5}, {4, 1, 0}, {4, 0, 1}};
        for (int[] call : calls) {
            CHECKS.due("set(" + call[0] + ", " + call[1] + ")", x.set(call[0], call[1]), call[2]);
        }
        int[] settings = {640, 40, 0, 1, 0};
        for (int setting = 0; setting < settings.length; setting++) {
            CHECKS.due("total(" + setting + ")", x.total(setting), settings[setting]);
        }
        ThirdVotes y = new ThirdVotes();
        y.set(0, 256);
        CHECKS.due("total(18)", y.total(18), 0);
        y.set(0, 257);
        CHECKS.due("total(18)", y.total(18), 1);
    }

    private static void setOutOfRange() {
        ThirdVotes x = new ThirdVotes();
        int[] unknown = {-1, 5, Integer.MIN_VALUE, Integer.MAX_VALUE};
        for (int setting : unknown) {
            CHECKS.due("set(" + setting + ", 1)", x.set(setting, 1), -1);
            CHECKS.due("set(" + setting + ", -1)", x.set(setting, -1), -1);
        }
        int[][] wrong = {{0, 63}, {0, 641}, {1, 3}, {1, 41}, {2, -1}, {2, 3}, {3, 0}, {3, 3}, {4, -1}, {4, 2},
            {0, Integer.MAX_VALUE}, {1, Integer.MIN_VALUE}};
        for (int[] call : wrong) {
            CHECKS.due("set(" + call[0] + ", " + call[1] + ")", x.set(call[0], call[1]), -2);
        }
        CHECKS.due("total(18)", x.total(18), 0);
    }

    private static void setLeavesTheWire() {
        ThirdVotes x = new ThirdVotes();
        x.send(85);
        x.set(0, 64);
        x.set(2, 1);
        x.set(3, 2);
        CHECKS.due("total(5)", x.total(5), 160);
        CHECKS.levels(x, 14, "0011");
        CHECKS.due("send(85)", x.send(85), 208);
    }

    private static void learn() {
        ThirdVotes x = new ThirdVotes();
        x.set(0, 300);
        x.send(85);
        // Falls at 0, 37, 75, 112 and 150: (150 + 4) / 8 is 19.
        CHECKS.due("fall(4)", x.fall(4), 150);
        CHECKS.due("total(17)", x.total(17), 19);
        CHECKS.due("learn()", x.learn(), 19);
        CHECKS.due("total(1)", x.total(1), 19);
        CHECKS.due("total(18)", x.total(18), 3);
        CHECKS.due("learn()", x.learn(), -5);
        CHECKS.due("total(18)", x.total(18), 3);
        x.undo();
        CHECKS.due("total(1)", x.total(1), 16);
    }

    /** Five falls, of which the last one is some ticks behind the first one. */
    private static ThirdVotes withFallsApart(int ticks) {
        ThirdVotes x = new ThirdVotes();
        x.pause(7);
        for (int fall = 0; fall < 3; fall++) {
            x.sendBreak(1);
            x.pause(1);
        }
        x.sendBreak(1);
        x.pause(ticks - 7);
        x.sendBreak(2);
        return x;
    }

    private static void learnNothing() {
        ThirdVotes x = new ThirdVotes();
        CHECKS.due("learn()", x.learn(), -5);
        x.send(21);
        CHECKS.due("total(15)", x.total(15), 4);
        CHECKS.due("total(17)", x.total(17), -5);
        CHECKS.due("learn()", x.learn(), -5);
        CHECKS.due("total(18)", x.total(18), 1);
        int[][] lengths = {{27, -5}, {28, 4}, {35, 4}, {36, 5}, {316, 40}, {323, 40}, {324, -5}, {400, -5}};
        for (int[] pair : lengths) {
            ThirdVotes y = withFallsApart(pair[0]);
            CHECKS.due("total(17) with falls " + pair[0] + " ticks apart", y.total(17), pair[1]);
            CHECKS.due("learn() with falls " + pair[0] + " ticks apart", y.learn(), pair[1]);
        }
        CHECKS.due("learn() of the first length", withFallsApart(124).learn(), -5);
    }
}
