/** Promises 1 to 14, sentence by sentence. */
final class ChangePromises {

    private static final String END_OR_FULL =
            "Returns the end of the wire then; OUT_OF_RANGE; FULL if the end would be greater than 1500.";
    private static final String A_CHANGE = "This is a change.";

    private final Sentences document;
    private final Checks checks;

    ChangePromises(Sentences document, Checks checks) {
        this.document = document;
        this.checks = checks;
    }

    void all() {
        aNewObject();
        send();
        pause();
        sendBreak();
        disturb();
        clear();
        set();
        learn();
        type();
        clearText();
        perform();
        undo();
        keep();
        restore();
    }

    /** One call records one state, and undo brings that back. */
    private void isAChange(ThirdVotes x, Call change) {
        document.says(A_CHANGE);
        isOneChange(x, change);
    }

    private void isOneChange(ThirdVotes x, Call change) {
        String before = Story.ofState(x);
        int states = x.total(18);
        checks.holds("there is room in the history", states < 4);
        checks.holds("the change is made", change.on(x) >= 0);
        checks.due("total(18)", x.total(18), states + 1);
        checks.due("undo()", x.undo(), states);
        checks.same("the state behind undo", Story.ofState(x), before);
    }

    private static ThirdVotes paused(int end) {
        ThirdVotes x = new ThirdVotes();
        Checks.pauseUpTo(x, end);
        return x;
    }

    private void aNewObject() {
        document.in("Promise 1: A new object");
        document.says("`ThirdVotes()`: Creates an empty wire.");
        ThirdVotes x = new ThirdVotes();
        int[] totals = {256, 16, 0, 1, 0, 0, 0, 0, 0, 0, 0, 0, 0, 0, 1, 0, 0, -5, 0, 0};
        for (int what = 0; what < totals.length; what++) {
            checks.due("total(" + what + ")", x.total(what), totals[what]);
        }
        checks.levels(x, 0, "11");
        checks.due("fall(0)", x.fall(0), -5);
        checks.due("sent(0)", x.sent(0), -5);
        checks.due("received(0, 0)", x.received(0, 0), -5);
        checks.due("undo()", x.undo(), -5);
        checks.due("restore()", x.restore(), -5);
        // A second object shares nothing with the first one.
        x.sendBreak(30);
        x.keep();
        x.type('a');
        checks.same("a new object", Story.ofAll(new ThirdVotes()), Story.ofAll(new ThirdVotes()));
        checks.due("total(5) of a new object", new ThirdVotes().total(5), 0);
        checks.due("restore() of a new object", new ThirdVotes().restore(), -5);
        checks.due("total(19) of a new object", new ThirdVotes().total(19), 0);
    }

    private void send() {
        document.in("Promise 2: send");
        document.says("`int send(int word)`: Sends a word.");
        ThirdVotes x = Checks.with(0, 64, 1, 4);
        x.send(0x96);
        checks.levels(x, 0, "0000" + "0000" + "11111111" + "0000" + "1111" + "00000000" + "1111" + "1111" + "1");
        checks.due("sent(0)", x.sent(0), 0x96);
        checks.due("total(14)", x.total(14), 1);
        isAChange(x, y -> y.send(0));
        document.says("- `word`: 0 to 255");
        ThirdVotes z = new ThirdVotes();
        checks.due("send(0)", z.send(0), 160);
        checks.due("send(255)", z.send(255), 320);
        for (int word : new int[] {-1, 256, 511, 65535, Integer.MIN_VALUE, Integer.MAX_VALUE}) {
            checks.due("send(" + word + ")", z.send(word), -2);
        }
        checks.due("total(6)", z.total(6), 2);
        document.says(END_OR_FULL);
        checks.due("send(7) up to 1500", paused(1340).send(7), 1500);
        checks.due("send(7) up to 1501", paused(1341).send(7), -3);
        checks.due("send(256) up to 1501", paused(1341).send(256), -2);
        // 43.75 ticks, rounded down: the end would be 1500.75.
        ThirdVotes rounded = paused(1457);
        rounded.set(0, 70);
        checks.due("send(7) up to 1500.75", rounded.send(7), 1500);
        rounded.undo();
        rounded.pause(1);
        checks.due("send(7) up to 1501.75", rounded.send(7), -3);
        ThirdVotes many = Checks.with(0, 64, 1, 4);
        for (int word = 0; word < 37; word++) {
            checks.due("send(" + word + ")", many.send(word), 40 * word + 40);
        }
        checks.due("send(37)", many.send(37), -3);
        many.set(2, 1);
        checks.due("send(37) with a parity", many.send(37), -3);
    }

    private void pause() {
        document.in("Promise 3: pause");
        document.says("`int pause(int ticks)`: Sends a pause.");
        ThirdVotes x = new ThirdVotes();
        x.sendBreak(2);
        x.pause(3);
        x.sendBreak(1);
        checks.levels(x, 0, "00" + "111" + "0" + "1");
        checks.due("total(6)", x.total(6), 0);
        isAChange(x, y -> y.pause(9));
        document.says("- `ticks`: 1 to 500");
        stretches(ThirdVotes::pause);
        document.says(END_OR_FULL);
        endOrFull(ThirdVotes::pause);
    }

    private void sendBreak() {
        document.in("Promise 4: sendBreak");
        document.says("`int sendBreak(int ticks)`: Sends a break.");
        ThirdVotes x = new ThirdVotes();
        x.pause(2);
        x.sendBreak(3);
        x.pause(1);
        checks.levels(x, 0, "11" + "000" + "1" + "1");
        checks.due("total(6)", x.total(6), 0);
        isAChange(x, y -> y.sendBreak(9));
        document.says("- `ticks`: 1 to 500");
        stretches(ThirdVotes::sendBreak);
        document.says(END_OR_FULL);
        endOrFull(ThirdVotes::sendBreak);
    }

    /** A call that tells how many ticks. */
    private interface Stretch {
        int on(ThirdVotes x, int ticks);
    }

    private void stretches(Stretch call) {
        ThirdVotes x = new ThirdVotes();
        for (int ticks : new int[] {0, -1, 501, Integer.MIN_VALUE, Integer.MAX_VALUE}) {
            checks.due("with " + ticks + " ticks, it", call.on(x, ticks), -2);
        }
        checks.due("with 1 tick, it", call.on(x, 1), 1);
        checks.due("with 500 ticks, it", call.on(x, 500), 501);
        checks.due("total(5)", x.total(5), 501);
    }

    private void endOrFull(Stretch call) {
        checks.due("up to 1500, it", call.on(paused(1000), 500), 1500);
        checks.due("up to 1501, it", call.on(paused(1001), 500), -3);
        checks.due("up to 1500 by one tick, it", call.on(paused(1499), 1), 1500);
        checks.due("up to 1501 by one tick, it", call.on(paused(1500), 1), -3);
        checks.due("up to 1501 by 501 ticks, it", call.on(paused(1000), 501), -2);
        checks.due("up to 1500 by no tick, it", call.on(paused(1500), 0), -2);
        ThirdVotes x = paused(1490);
        checks.due("with 11 ticks, it", call.on(x, 11), -3);
        checks.due("total(5) behind it", x.total(5), 1490);
        checks.due("with 10 ticks, it", call.on(x, 10), 1500);
    }

    private void disturb() {
        document.in("Promise 5: disturb");
        document.says("`int disturb(int at, int ticks)`: Disturbs the wire: the levels of some ticks are the other ones "
                + "then.");
        ThirdVotes x = new ThirdVotes();
        Checks.put(x, "1110001");
        x.disturb(2, 3);
        checks.levels(x, 0, "1101101" + "1");
        x.disturb(2, 3);
        checks.levels(x, 0, "1110001" + "1");
        x.disturb(0, 7);
        checks.levels(x, 0, "0001110" + "1");
        ThirdVotes wide = paused(140);
        wide.disturb(60, 10);
        wide.disturb(126, 3);
        checks.levels(wide, 58, "11" + "0".repeat(10) + "11");
        checks.levels(wide, 124, "11" + "000" + "11");
        checks.due("total(5)", wide.total(5), 140);
        checks.due("total(6)", wide.total(6), 0);
        isAChange(wide, y -> y.disturb(64, 1));
        document.says("- `at`: the first tick, 0 or more");
        ThirdVotes z = paused(50);
        checks.due("disturb(-1, 1)", z.disturb(-1, 1), -2);
        checks.due("disturb(-1, 40)", z.disturb(-1, 40), -2);
        checks.due("disturb(least, 1)", z.disturb(Integer.MIN_VALUE, 1), -2);
        checks.due("disturb(0, 1)", z.disturb(0, 1), 0);
        checks.due("total(16)", z.total(16), 1);
        document.says("- `ticks`: 1 to 40: how many; all have to be ahead of the end");
        ThirdVotes w = paused(50);
        for (int ticks : new int[] {0, -1, 41, Integer.MIN_VALUE, Integer.MAX_VALUE}) {
            checks.due("disturb(3, " + ticks + ")", w.disturb(3, ticks), -2);
        }
        checks.due("disturb(11, 40)", w.disturb(11, 40), -2);
        checks.due("disturb(50, 1)", w.disturb(50, 1), -2);
        checks.due("disturb(49, 2)", w.disturb(49, 2), -2);
        checks.due("disturb(greatest, 1)", w.disturb(Integer.MAX_VALUE, 1), -2);
        checks.due("disturb(greatest, 40)", w.disturb(Integer.MAX_VALUE, 40), -2);
        checks.due("disturb(0, 1) of an empty wire", new ThirdVotes().disturb(0, 1), -2);
        checks.due("total(16)", w.total(16), 0);
        checks.due("disturb(10, 40)", w.disturb(10, 40), 0);
        checks.due("total(16)", w.total(16), 40);
        checks.due("disturb(49, 1)", w.disturb(49, 1), 1);
        checks.levels(w, 47, "0011");
        document.says("Returns how many of these ticks have the level 1 then; OUT_OF_RANGE.");
        ThirdVotes v = new ThirdVotes();
        Checks.put(v, "1".repeat(20) + "0".repeat(20) + "1");
        checks.due("disturb(0, 20)", v.disturb(0, 20), 0);
        checks.due("disturb(0, 40)", v.disturb(0, 40), 40);
        checks.due("disturb(1, 40)", v.disturb(1, 40), 0);
        checks.due("disturb(0, 2)", v.disturb(0, 2), 1);
        checks.due("disturb(2, 40)", v.disturb(2, 40), -2);
    }

    private void clear() {
        document.in("Promise 6: clear");
        document.says("`int clear()`: Clears the wire: its end is 0, and nothing was sent.");
        ThirdVotes x = new ThirdVotes();
        x.send(3);
        x.sendBreak(20);
        x.clear();
        checks.due("total(5)", x.total(5), 0);
        checks.due("total(6)", x.total(6), 0);
        checks.due("sent(0)", x.sent(0), -5);
        checks.due("total(7)", x.total(7), 0);
        checks.due("total(14)", x.total(14), 1);
        checks.due("total(15)", x.total(15), 0);
        checks.due("total(16)", x.total(16), 0);
        checks.due("send(4)", x.send(4), 160);
        checks.due("sent(0)", x.sent(0), 4);
        checks.due("sent(1)", x.sent(1), -5);
        document.says("Disturbances go with it; the settings stay.");
        ThirdVotes y = Checks.with(0, 64, 1, 4, 2, 2, 3, 2, 4, 1);
        y.pause(100);
        y.disturb(30, 40);
        y.clear();
        checks.due("total(16)", y.total(16), 0);
        y.pause(100);
        checks.due("total(16)", y.total(16), 0);
        checks.levels(y, 28, "11111");
        int[] settings = {64, 4, 2, 2, 1};
        for (int setting = 0; setting < settings.length; setting++) {
            checks.due("total(" + setting + ")", y.total(setting), settings[setting]);
        }
        isAChange(paused(9), z -> z.clear());
        isOneChange(new ThirdVotes(), z -> z.clear());
        document.says("Returns the end that it had.");
        checks.due("clear()", x.clear(), 160);
        checks.due("clear() of an empty wire", x.clear(), 0);
        checks.due("clear() of a full wire", paused(1500).clear(), 1500);
    }

    private void set() {
        document.in("Promise 7: set");
        document.says("`int set(int setting, int value)`: Changes a setting (what is on the wire stays).");
        ThirdVotes x = new ThirdVotes();
        x.send(85);
        x.disturb(40, 4);
        String wire = Story.ofState(x).substring(Story.ofState(x).indexOf("end"));
        for (int[] change : new int[][] {{0, 64}, {1, 4}, {2, 1}, {3, 2}, {4, 1}}) {
            x.set(change[0], change[1]);
            checks.due("total(" + change[0] + ")", x.total(change[0]), change[1]);
            checks.same("the wire", Story.ofState(x).substring(Story.ofState(x).indexOf("end")), wire);
        }
        isAChange(Checks.with(4, 1), y -> y.set(4, 0));
        document.says("- `setting`: 0 to 4");
        ThirdVotes z = new ThirdVotes();
        for (int setting : new int[] {-1, 5, 6, Integer.MIN_VALUE, Integer.MAX_VALUE}) {
            checks.due("set(" + setting + ", 1)", z.set(setting, 1), -1);
        }
        checks.due("set(0, 65)", z.set(0, 65), 256);
        checks.due("set(4, 1)", z.set(4, 1), 0);
        document.says("- `value`: in its range");
        ThirdVotes w = new ThirdVotes();
        int[][] ranges = {{64, 640}, {4, 40}, {0, 2}, {1, 2}, {0, 1}};
        for (int setting = 0; setting < ranges.length; setting++) {
            for (int value : new int[] {ranges[setting][0] - 1, ranges[setting][1] + 1, Integer.MIN_VALUE,
                Integer.MAX_VALUE}) {
                checks.due("set(" + setting + ", " + value + ")", w.set(setting, value), -2);
            }
            w.set(setting, ranges[setting][1]);
            checks.due("set(" + setting + ", least)", w.set(setting, ranges[setting][0]), ranges[setting][1]);
            checks.due("set(" + setting + ", greatest)", w.set(setting, ranges[setting][1]), ranges[setting][0]);
        }
        document.says("Returns the previous value; UNKNOWN; OUT_OF_RANGE; NONE if it has this value already.");
        ThirdVotes v = new ThirdVotes();
        int[][] calls = {{0, 256, -5}, {0, 257, 256}, {0, 257, -5}, {0, 256, 257}, {1, 16, -5}, {1, 17, 16}, {2, 0, -5},
            {2, 2, 0}, {2, 1, 2}, {2, 1, -5}, {3, 1, -5}, {3, 2, 1}, {4, 0, -5}, {4, 1, 0}, {4, 1, -5}, {5, 641, -1},
            {-1, -1, -1}, {0, 641, -2}};
        for (int[] call : calls) {
            checks.due("set(" + call[0] + ", " + call[1] + ")", v.set(call[0], call[1]), call[2]);
        }
    }

    private void learn() {
        document.in("Promise 8: learn");
        document.says("`int learn()`: Sets the setting 1 to the length that is learned.");
        ThirdVotes x = Checks.with(0, 300);
        x.send(85);
        x.learn();
        // The falls are at 0, 37, 75, 112 and 150.
        checks.due("total(1)", x.total(1), 19);
        checks.due("total(0)", x.total(0), 300);
        checks.due("total(14)", x.total(14), 1);
        ThirdVotes y = Checks.with(0, 64);
        y.send(85);
        isAChange(y, z -> z.learn());
        document.says("Returns this length; NONE if none is learned, or it is the setting 1 already.");
        checks.due("learn()", y.learn(), 4);
        checks.due("learn() again", y.learn(), -5);
        y.set(1, 5);
        checks.due("learn() behind another length", y.learn(), 4);
        checks.due("learn() of the greatest length", learnable(640).learn(), 40);
        checks.due("learn() of the first length", learnable(256).learn(), -5);
        checks.due("learn() of an empty wire", new ThirdVotes().learn(), -5);
        ThirdVotes four = new ThirdVotes();
        four.send(21);
        checks.due("learn() with four falls", four.learn(), -5);
        four.sendBreak(1);
        checks.due("learn() with five falls, the last one at 160", four.learn(), 20);
        ThirdVotes far = new ThirdVotes();
        Checks.put(far, "01".repeat(4) + "1".repeat(316) + "0");
        checks.due("learn() of a length of 41", far.learn(), -5);
        ThirdVotes near = new ThirdVotes();
        Checks.put(near, "01".repeat(4) + "1".repeat(19) + "0");
        checks.due("learn() of a length of 3", near.learn(), -5);
        checks.due("total(1)", near.total(1), 16);
    }

    private static ThirdVotes learnable(int length) {
        ThirdVotes x = Checks.with(0, length);
        x.send(85);
        return x;
    }

    private void type() {
        document.in("Promise 9: type");
        document.says("`int type(char character)`: Appends a character to the text.");
        ThirdVotes x = new ThirdVotes();
        x.type('.');
        x.type('4');
        x.type('2');
        checks.due("perform()", x.perform(), 42);
        checks.due("total(18): type is no change", x.total(18), 1);
        document.says("- `character`: any character");
        ThirdVotes y = new ThirdVotes();
        char[] any = {'a', ' ', '(', 0, 10, 127, 128, 255, 256, 0xd800, 0xffff};
        for (int index = 0; index < any.length; index++) {
            checks.due("type((char) " + (int) any[index] + ")", y.type(any[index]), index + 1);
        }
        document.says("Returns the length of the text then; FULL if it has 60 characters.");
        ThirdVotes z = new ThirdVotes();
        for (int length = 1; length <= 60; length++) {
            checks.due("type('_')", z.type('_'), length);
        }
        checks.due("type('_') at 60", z.type('_'), -3);
        checks.due("type('_') at 60 again", z.type('_'), -3);
        checks.due("total(19)", z.total(19), 60);
    }

    private void clearText() {
        document.in("Promise 10: clearText");
        document.says("`int clearText()`: Empties the text.");
        ThirdVotes x = new ThirdVotes();
        Checks.write(x, ".1");
        x.clearText();
        checks.due("total(19)", x.total(19), 0);
        checks.due("perform()", x.perform(), -100);
        checks.due("type('.')", x.type('.'), 1);
        checks.due("perform()", x.perform(), -101);
        checks.due("total(18): clearText is no change", x.total(18), 0);
        document.says("Returns the length that it had.");
        checks.due("clearText()", x.clearText(), 1);
        checks.due("clearText() of an empty text", x.clearText(), 0);
        Checks.write(x, ".".repeat(60));
        checks.due("clearText() of a full text", x.clearText(), 60);
        checks.due("clearText() again", x.clearText(), 0);
    }

    private void perform() {
        document.in("Promise 11: perform");
        document.says("`int perform()`: Sends the program of the text, which stays.");
        ThirdVotes x = Checks.with(0, 64);
        Checks.write(x, "_2,.1,2(0f,_1)");
        x.perform();
        String word = "0000" + "1".repeat(16) + "0".repeat(16) + "1111";
        checks.levels(x, 0, "00" + "1" + word + "0" + word + "0" + "1");
        checks.due("total(6)", x.total(6), 2);
        checks.due("sent(1)", x.sent(1), 15);
        checks.due("total(19)", x.total(19), 14);
        checks.due("perform() again", x.perform(), 170);
        checks.due("total(6)", x.total(6), 4);
        document.says("This is one change.");
        isOneChange(Checks.with(0, 64, 1, 4), y -> typeAndPerform(y, "_2,.1,2(0f,_1)"));
        isOneChange(Checks.with(0, 64, 1, 4), y -> typeAndPerform(y, "9(9(.1))"));
        document.says("Returns the end of the wire then; -100 minus the fault of the text if it has one (this is an "
                + "error); FULL if the end would be greater than 1500 at some time.");
        checks.due("perform() of an empty text", typeAndPerform(new ThirdVotes(), ""), -100);
        checks.due("perform() with the fault 1", typeAndPerform(new ThirdVotes(), "0"), -101);
        checks.due("perform() with the fault 59", typeAndPerform(new ThirdVotes(), ".".repeat(1) + "1,.".repeat(19) + "1("),
                -159);
        checks.due("perform() with the fault 60", typeAndPerform(new ThirdVotes(), "00,".repeat(20)), -160);
        checks.due("perform() up to 1500", typeAndPerform(paused(1480), "2(.5,_5)"), 1500);
        checks.due("perform() up to 1501", typeAndPerform(paused(1481), "2(.5,_5)"), -3);
        checks.due("perform() up to 1500 by a word", typeAndPerform(paused(1340), "00"), 1500);
        checks.due("perform() up to 1501 by a word", typeAndPerform(paused(1341), "00"), -3);
        checks.due("perform() up to 1501 and on", typeAndPerform(paused(1481), "9(.9),_1,00"), -3);
        checks.due("perform() of all the wire", typeAndPerform(new ThirdVotes(), "5(5(3(4(5(.1)))))"), 1500);
        checks.due("perform() of more than that", typeAndPerform(new ThirdVotes(), "5(5(3(4(5(.1))))),.1"), -3);
        checks.due("perform() of far more", typeAndPerform(new ThirdVotes(), "9(".repeat(19) + ".1" + ")".repeat(19)), -3);
        checks.due("perform() of a faulty text on a full wire", typeAndPerform(paused(1500), "00,"), -103);
        // What was too long, and stopped within repeats, leaves nothing behind for the next text.
        ThirdVotes again = new ThirdVotes();
        Checks.write(again, "9(".repeat(19) + ".1" + ")".repeat(19));
        for (int time = 0; time < 4; time++) {
            checks.due("perform() of far more, again", again.perform(), -3);
        }
        checks.due("perform() of a repeat behind it", typeAndPerform(again, "2(.3,2(_4))"), 22);
        ThirdVotes z = paused(1450);
        checks.due("perform()", typeAndPerform(z, "_50,.1"), -3);
        checks.due("total(16)", z.total(16), 0);
        checks.due("total(5)", z.total(5), 1450);
    }

    private static int typeAndPerform(ThirdVotes x, String text) {
        Checks.write(x, text);
        return x.perform();
    }

    private void undo() {
        document.in("Promise 12: undo");
        document.says("`int undo()`: Restores the latest state of the history, and removes it from there.");
        ThirdVotes x = new ThirdVotes();
        x.send(1);
        x.send(2);
        x.set(1, 9);
        x.undo();
        checks.due("total(1)", x.total(1), 16);
        checks.due("total(6)", x.total(6), 2);
        x.undo();
        checks.due("total(6)", x.total(6), 1);
        checks.due("total(5)", x.total(5), 160);
        checks.due("sent(0)", x.sent(0), 1);
        checks.due("total(18)", x.total(18), 1);
        document.says("Returns how many states are left; NONE if the history is empty.");
        ThirdVotes y = new ThirdVotes();
        checks.due("undo()", y.undo(), -5);
        for (int change = 0; change < 5; change++) {
            y.pause(1);
        }
        for (int left = 3; left >= 0; left--) {
            checks.due("undo()", y.undo(), left);
        }
        checks.due("undo()", y.undo(), -5);
        checks.due("undo()", y.undo(), -5);
        checks.due("total(5)", y.total(5), 1);
    }

    private void keep() {
        document.in("Promise 13: keep");
        document.says("`int keep()`: Takes a snapshot of the state, in place of an earlier one.");
        ThirdVotes x = new ThirdVotes();
        x.send(1);
        x.keep();
        x.send(2);
        x.keep();
        x.send(3);
        x.restore();
        checks.due("total(6)", x.total(6), 2);
        // What happens to the wire later on leaves the snapshot as it was.
        x.disturb(16, 16);
        x.set(1, 20);
        x.restore();
        checks.due("total(14)", x.total(14), 1);
        checks.due("total(1)", x.total(1), 16);
        ThirdVotes y = Checks.with(1, 4);
        y.keep();
        checks.due("total(18): keep is no change", y.total(18), 1);
        document.says("Returns the end of the wire.");
        checks.due("keep()", new ThirdVotes().keep(), 0);
        checks.due("keep()", x.keep(), 320);
        checks.due("keep() of a full wire", paused(1500).keep(), 1500);
    }

    private void restore() {
        document.in("Promise 14: restore");
        document.says("`int restore()`: Restores the state of the snapshot, which stays.");
        ThirdVotes x = Checks.with(1, 9);
        x.send(7);
        x.keep();
        String kept = Story.ofState(x);
        for (int round = 0; round < 3; round++) {
            x.clear();
            x.set(1, 30);
            x.restore();
            checks.same("the state behind restore", Story.ofState(x), kept);
        }
        ThirdVotes y = new ThirdVotes();
        y.keep();
        y.send(7);
        isAChange(y, z -> z.restore());
        checks.due("total(18)", y.total(18), 1);
        document.says("Returns the end of the wire then; NONE if there is no snapshot.");
        checks.due("restore()", y.restore(), 0);
        checks.due("restore()", x.restore(), 160);
        ThirdVotes none = paused(3);
        checks.due("restore() without a snapshot", none.restore(), -5);
        none.keep();
        none.clear();
        checks.due("restore()", none.restore(), 3);
    }
}
