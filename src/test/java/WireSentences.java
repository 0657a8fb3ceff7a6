/** What stands under "Terms" about the wire, sending and settings. */
final class WireSentences {

    private final Sentences document;
    private final Checks checks;

    WireSentences(Sentences document, Checks checks) {
        this.document = document;
        this.checks = checks;
    }

    void all() {
        document.in("Terms");
        document.namesNothingToTest("THE WIRE");
        levels();
        end();
        sentFromTheEndOn();
        document.namesNothingToTest("SENDING");
        bitsOfAWord();
        parity();
        roundedDown();
        pausesAndBreaks();
        document.namesNothingToTest("SETTINGS (Range; first value.)");
        lengthOfTheSender();
        lengthOfTheReceiver();
        parities();
        stops();
        votes();
    }

    private void levels() {
        document.says("The wire has a level, 0 or 1, at each tick, from the tick 0 on.");
        ThirdVotes x = new ThirdVotes();
        checks.due("level(0)", x.level(0), 1);
        checks.due("level(greatest)", x.level(Integer.MAX_VALUE), 1);
        checks.due("level(-1)", x.level(-1), -2);
        x.sendBreak(1);
        checks.levels(x, 0, "011");
        checks.due("level(greatest)", x.level(Integer.MAX_VALUE), 1);
        checks.due("level(-1)", x.level(-1), -2);
    }

    private void end() {
        document.says("It has an end (a tick; 0 at first, at most 1500): from there on the level is 1.");
        ThirdVotes x = new ThirdVotes();
        checks.due("total(5)", x.total(5), 0);
        checks.levels(x, 0, "11");
        checks.due("sendBreak(500)", x.sendBreak(500), 500);
        checks.levels(x, 498, "0011");
        checks.due("sendBreak(500)", x.sendBreak(500), 1000);
        checks.due("sendBreak(499)", x.sendBreak(499), 1499);
        checks.due("sendBreak(2)", x.sendBreak(2), -3);
        checks.levels(x, 1497, "0011");
        checks.due("sendBreak(1)", x.sendBreak(1), 1500);
        checks.levels(x, 1497, "00011");
        checks.due("pause(1)", x.pause(1), -3);
        checks.due("sendBreak(1)", x.sendBreak(1), -3);
        checks.due("send(0)", x.send(0), -3);
        checks.due("total(5)", x.total(5), 1500);
        x.clear();
        checks.levels(x, 0, "11");
        checks.levels(x, 1499, "11");
    }

    private void sentFromTheEndOn() {
        document.says("What is sent is put onto the wire from its end on, and moves the end.");
        ThirdVotes x = Checks.with(0, 64);
        checks.due("sendBreak(2)", x.sendBreak(2), 2);
        checks.due("pause(1)", x.pause(1), 3);
        checks.due("send(255)", x.send(255), 43);
        Checks.write(x, "_2,.1,00");
        checks.due("perform()", x.perform(), 86);
        checks.due("sendBreak(1)", x.sendBreak(1), 87);
        checks.levels(x, 0, "00" + "1" + "0000" + "1".repeat(36) + "00" + "1" + "0".repeat(36) + "1111" + "0" + "1");
    }

    private void bitsOfAWord() {
        document.says("A word (0 to 255) is sent in bits: a start, which is 0; its 8 bits, from the lowest to the "
                + "highest; with the setting 2 as 1 or 2 a parity; and as many stops, which are 1, as the setting 3 "
                + "tells.");
        bits("the least word", 0, 0, 1, "0" + "00000000" + "1");
        bits("the greatest word", 255, 0, 1, "0" + "11111111" + "1");
        bits("the lowest bit", 1, 0, 1, "0" + "10000000" + "1");
        bits("the highest bit", 128, 0, 1, "0" + "00000001" + "1");
        bits("a parity", 0, 1, 1, "0" + "00000000" + "0" + "1");
        bits("the other parity", 0, 2, 1, "0" + "00000000" + "1" + "1");
        bits("two stops", 0, 0, 2, "0" + "00000000" + "11");
        bits("a parity and two stops", 0, 1, 2, "0" + "00000000" + "0" + "11");
        bits("the other parity and two stops", 254, 2, 2, "0" + "01111111" + "0" + "11");
    }

    private void bits(String what, int word, int parity, int stops, String bits) {
        ThirdVotes x = Checks.with(0, 64, 2, parity, 3, stops);
        checks.due("send(" + word + ") with " + what, x.send(word), 4 * bits.length());
        // Low behind it, so that the last stop can be told from the end of the wire.
        x.sendBreak(1);
        StringBuilder levels = new StringBuilder();
        for (char bit : bits.toCharArray()) {
            levels.append(String.valueOf(bit).repeat(4));
        }
        checks.levels(x, 0, levels + "01");
    }

    private void parity() {
        document.says("With the setting 2 as 1 the parity is 1 if the word has an odd number of bits that are 1, "
                + "otherwise 0; as 2 it is the other way round.");
        int[][] wordsAndParities = {{0, 0}, {1, 1}, {128, 1}, {3, 0}, {129, 0}, {7, 1}, {170, 0}, {127, 1}, {254, 1},
            {255, 0}};
        for (int[] pair : wordsAndParities) {
            ThirdVotes x = Checks.with(0, 64, 2, 1);
            x.send(pair[0]);
            checks.due("the parity of " + pair[0], x.level(37), pair[1]);
            ThirdVotes y = Checks.with(0, 64, 2, 2);
            y.send(pair[0]);
            checks.due("the other parity of " + pair[0], y.level(37), 1 - pair[1]);
        }
    }

    private void roundedDown() {
        document.says("If the sending begins at the tick e, and the setting 0 is s, the bit k (from 0) is on the wire "
                + "from the tick e + k * s / 16 on, up to the tick ahead of e + (k + 1) * s / 16 (rounded down); the "
                + "end is e + n * s / 16 (rounded down) then, with n bits in all.");
        // 79 sixteenths are 4.9375: the bits begin at 0, 4, 9, 14, 19, 24, 29, 34, 39 and 44, and the end is 49.375.
        String word85 = "0000" + "11111" + "00000" + "11111" + "00000" + "11111" + "00000" + "11111" + "00000" + "11111";
        ThirdVotes x = Checks.with(0, 79);
        checks.due("send(85)", x.send(85), 49);
        checks.levels(x, 0, word85);
        // Each word begins at a whole tick: without the rounding the third end would be 148.125.
        checks.due("send(85)", x.send(85), 98);
        checks.levels(x, 49, word85);
        checks.due("send(85)", x.send(85), 147);
        x.set(2, 1);
        checks.due("send(85) with 11 bits, 54.3125 ticks", x.send(85), 201);
        x.set(3, 2);
        checks.due("send(85) with 12 bits, 59.25 ticks", x.send(85), 260);
        checks.due("send(0) with the least length", Checks.with(0, 64).send(0), 40);
        checks.due("send(0) with 40.625 ticks", Checks.with(0, 65).send(0), 40);
        checks.due("send(0) with 399.375 ticks", Checks.with(0, 639).send(0), 399);
        checks.due("send(0) with the greatest length", Checks.with(0, 640).send(0), 400);
        checks.due("send(0) with the greatest length and most bits", Checks.with(0, 640, 2, 2, 3, 2).send(0), 480);
    }

    private void pausesAndBreaks() {
        document.says("A pause is a number of ticks with the level 1, a break one with the level 0.");
        ThirdVotes x = new ThirdVotes();
        x.pause(3);
        x.sendBreak(2);
        x.pause(1);
        x.sendBreak(1);
        Checks.write(x, ".2,_4");
        x.perform();
        checks.levels(x, 0, "111" + "00" + "1" + "0" + "11" + "0000" + "1");
    }

    private void lengthOfTheSender() {
        document.says("0 the length of the sender's bits in sixteenths of a tick (64 to 640; 256),");
        range(0, 64, 640, 256);
        checks.due("send(0) of a new object", new ThirdVotes().send(0), 160);
    }

    private void lengthOfTheReceiver() {
        document.says("1 the length of the receiver's bits in ticks (4 to 40; 16),");
        range(1, 4, 40, 16);
        int[][] lengthsAndLooks = {{4, 38}, {16, 154}, {40, 386}};
        for (int[] pair : lengthsAndLooks) {
            ThirdVotes x = Checks.with(1, pair[0]);
            x.sendBreak(30);
            checks.due("the last look with " + pair[0], x.received(0, 4), pair[1]);
        }
    }

    private void parities() {
        document.says("2 the parity (0 to 2; 0),");
        range(2, 0, 2, 0);
        checks.due("send(0) without a parity", Checks.with(0, 64, 2, 0).send(0), 40);
        checks.due("send(0) with a parity", Checks.with(0, 64, 2, 1).send(0), 44);
        checks.due("send(0) with the other parity", Checks.with(0, 64, 2, 2).send(0), 44);
    }

    private void stops() {
        document.says("3 the stops that are sent (1 or 2; 1),");
        range(3, 1, 2, 1);
        checks.due("send(0) with one stop", Checks.with(0, 64, 3, 1).send(0), 40);
        checks.due("send(0) with two stops", Checks.with(0, 64, 3, 2).send(0), 44);
    }

    private void votes() {
        document.says("4 the votes (0 for three, 1 for one; 0).");
        range(4, 0, 1, 0);
        // The tick 8 is the second of three looks for the start.
        ThirdVotes x = new ThirdVotes();
        x.send(255);
        x.disturb(8, 1);
        checks.due("total(8) with three votes", x.total(8), 1);
        x.set(4, 1);
        checks.due("total(12) with one vote", x.total(12), 1);
        checks.due("total(8) with one vote", x.total(8), 0);
    }

    private void range(int setting, int least, int greatest, int first) {
        ThirdVotes x = new ThirdVotes();
        String name = "set(" + setting + ", ";
        checks.due("total(" + setting + ") at first", x.total(setting), first);
        checks.due(name + (least - 1) + ")", x.set(setting, least - 1), -2);
        checks.due(name + (greatest + 1) + ")", x.set(setting, greatest + 1), -2);
        checks.due("total(" + setting + ")", x.total(setting), first);
        checks.due(name + greatest + ")", x.set(setting, greatest), first);
        checks.due("total(" + setting + ")", x.total(setting), greatest);
        checks.due(name + (greatest + 1) + ")", x.set(setting, greatest + 1), -2);
        checks.due(name + least + ")", x.set(setting, least), greatest);
        checks.due("total(" + setting + ")", x.total(setting), least);
        checks.due(name + (least - 1) + ")", x.set(setting, least - 1), -2);
    }
}
