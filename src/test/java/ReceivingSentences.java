/** What stands under "Terms" about receiving and learning. */
final class ReceivingSentences {

    private static final int GOOD = 0;
    private static final int ODD = 1;
    private static final int UNSTOPPED = 2;
    private static final int BREAK = 3;
    /** The looks into a bit of 16 ticks. */
    private static final int[] LOOKS = {5, 8, 10};

    private final Sentences document;
    private final Checks checks;

    ReceivingSentences(Sentences document, Checks checks) {
        this.document = document;
        this.checks = checks;
    }

    void all() {
        document.in("Terms");
        document.namesNothingToTest("RECEIVING");
        theWireAsItIs();
        begins();
        looks();
        oneVote();
        theSameLooks();
        doubtful();
        falseStarts();
        bitsOfAWord();
        document.namesNothingToTest("What is received is");
        breaks();
        unstopped();
        odd();
        good();
        waitsBehindTheLastLook();
        waitsBehindABreak();
        stops();
        allIsWell();
        document.namesNothingToTest("LEARNING");
        falls();
        learned();
        notLearned();
        word85();
    }

    /** A wire with some levels on it, and what receives it. */
    private static ThirdVotes wire(int length, String levels) {
        ThirdVotes x = Checks.with(1, length);
        Checks.put(x, levels);
        return x;
    }

    private static String low(int ticks) {
        return "0".repeat(ticks);
    }

    private static String high(int ticks) {
        return "1".repeat(ticks);
    }

    private void counts(ThirdVotes x, int received, int falseStarts) {
        checks.due("total(7)", x.total(7), received);
        checks.due("total(12)", x.total(12), falseStarts);
    }

    private void theWireAsItIs() {
        document.says("The receiver looks at the wire as it is, from the tick 0 on, whatever was sent; let r be the "
                + "setting 1.");
        ThirdVotes x = wire(16, low(16) + high(144));
        checks.due("total(6)", x.total(6), 0);
        checks.received(x, 0, GOOD, 255, 0, 0, 154);
        x.set(0, 640);
        x.set(3, 2);
        checks.received(x, 0, GOOD, 255, 0, 0, 154);
        x.set(1, 32);
        counts(x, 0, 1);
        ThirdVotes y = new ThirdVotes();
        y.send(3);
        y.disturb(0, 16);
        // Low are the ticks 48 to 143 then: a start, and five bits.
        checks.received(y, 0, GOOD, 224, 48, 0, 202);
        checks.due("sent(0)", y.sent(0), 3);
        y.disturb(48, 40);
        y.disturb(88, 40);
        y.disturb(128, 16);
        counts(y, 0, 0);
    }

    private void begins() {
        document.says("It waits until a tick t at which the level is 0, and 1 at the tick ahead of it (ahead of the "
                + "tick 0 the level is 1).");
        checks.due("received(0, 2) at the tick 0", wire(4, low(4) + high(40)).received(0, 2), 0);
        checks.due("received(0, 2) at the tick 1", wire(4, "1" + low(4) + high(40)).received(0, 2), 1);
        checks.due("received(0, 2) at the tick 63", wire(4, high(63) + low(4)).received(0, 2), 63);
        checks.due("received(0, 2) at the tick 64", wire(4, high(64) + low(4)).received(0, 2), 64);
        // Nothing begins within a low stretch: the last look for the stop, at 48, is low, and so is what follows.
        ThirdVotes x = wire(5, low(45) + high(3) + low(9) + high(1) + low(5));
        checks.received(x, 0, GOOD, 0, 0, 1, 48);
        checks.received(x, 1, GOOD, 255, 58, 0, 106);
        counts(x, 2, 0);
        // That the tick ahead was a look of what came before makes no difference.
        ThirdVotes y = wire(4, low(36) + high(3) + low(4));
        checks.received(y, 0, GOOD, 0, 0, 0, 38);
        checks.received(y, 1, GOOD, 255, 39, 0, 77);
        ThirdVotes z = wire(4, low(1) + high(2) + low(4));
        checks.received(z, 0, GOOD, 255, 3, 0, 41);
        counts(z, 1, 1);
    }

    private void looks() {
        document.says("Then it tells bits, from 0 on: the bit k by the levels at the ticks t + k * r + r / 3, "
                + "t + k * r + r / 2 and t + k * r + 2 * r / 3 (each quotient rounded down): it is what at least two "
                + "of these looks tell.");
        for (int length = 4; length <= 40; length++) {
            looksInto(1, length);
            looksInto(8, length);
        }
        for (int base = 0; base <= 1; base++) {
            for (int disturbed = 0; disturbed < 8; disturbed++) {
                int expected = Integer.bitCount(disturbed) >= 2 ? 1 - base : base;
                checks.due("the bit " + base + " with the looks " + disturbed + " disturbed",
                        thirdBit(0, base, disturbed).received(0, 1), 4 * expected);
            }
        }
    }

    /** Disturbs each tick of a bit that is 0, and tells by what is received which of them are looks. */
    private void looksInto(int bit, int length) {
        ThirdVotes x = Checks.with(0, 16 * length, 1, length);
        x.pause(7);
        x.send(bit == 8 ? 1 : 128);
        checks.due("received(0, 4) with " + length, x.received(0, 4), 7 + 9 * length + 2 * length / 3);
        for (int tick = 0; tick < length; tick++) {
            int hits = (tick == length / 3 ? 1 : 0) + (tick == length / 2 ? 1 : 0) + (tick == 2 * length / 3 ? 1 : 0);
            String at = " with " + length + ", the tick " + tick + " of the bit " + bit + " disturbed";
            x.disturb(7 + bit * length + tick, 1);
            checks.due("total(13)" + at, x.total(13), hits == 0 ? 0 : 1);
            checks.due("received(0, 1)" + at, x.received(0, 1),
                    (bit == 8 ? 1 : 128) + (hits >= 2 ? 1 << bit - 1 : 0));
            x.undo();
        }
    }

    /** A word whose bit 3 is 0 or 1, with some of its three looks disturbed, told as bits. */
    private static ThirdVotes thirdBit(int votes, int base, int disturbed) {
        ThirdVotes x = Checks.with(4, votes);
        x.send(4 * base);
        for (int look = 0; look < 3; look++) {
            if ((disturbed >> look & 1) == 1) {
                x.disturb(48 + LOOKS[look], 1);
            }
        }
        return x;
    }

    private void oneVote() {
        document.says("With the setting 4 as 1 just the second of these looks counts.");
        for (int base = 0; base <= 1; base++) {
            for (int disturbed = 0; disturbed < 8; disturbed++) {
                int expected = (disturbed >> 1 & 1) == 1 ? 1 - base : base;
                checks.due("the bit " + base + " with the looks " + disturbed + " disturbed",
                        thirdBit(1, base, disturbed).received(0, 1), 4 * expected);
            }
        }
        // So it is for the start, and for the stop.
        ThirdVotes x = Checks.with(4, 1);
        x.send(255);
        x.disturb(5, 1);
        x.disturb(10, 1);
        x.disturb(149, 1);
        x.disturb(154, 1);
        counts(x, 1, 0);
        checks.due("received(0, 0)", x.received(0, 0), GOOD);
        x.disturb(152, 1);
        checks.due("received(0, 0) without a stop", x.received(0, 0), UNSTOPPED);
        ThirdVotes y = Checks.with(4, 1);
        y.send(255);
        y.disturb(8, 1);
        counts(y, 0, 1);
    }

    private void theSameLooks() {
        document.says("(The looks are the same three then, also for what is told below.)");
        ThirdVotes x = Checks.with(4, 1);
        x.send(255);
        checks.due("received(0, 4)", x.received(0, 4), 154);
        // The looks for the start are at 2, 3 and 4: the fall at 4 is looked over, and all is low behind it.
        ThirdVotes y = wire(6, "00010000001");
        y.set(4, 1);
        counts(y, 0, 1);
        // Here all is high behind the second look, and the fall at 5 is right behind the third one.
        ThirdVotes z = wire(6, "000110000001");
        z.set(4, 1);
        counts(z, 1, 1);
        checks.due("received(0, 2)", z.received(0, 2), 5);
        // The last look of the stop, at 48, is low, and so is what follows.
        ThirdVotes w = wire(5, low(45) + high(3) + low(9));
        w.set(4, 1);
        checks.received(w, 0, GOOD, 0, 0, 1, 48);
        counts(w, 1, 0);
    }

    private void doubtful() {
        document.says("A bit is doubtful if the three looks are not all alike, also with the setting 4 as 1.");
        for (int votes = 0; votes <= 1; votes++) {
            for (int disturbed = 0; disturbed < 8; disturbed++) {
                int expected = disturbed == 0 || disturbed == 7 ? 0 : 1;
                for (int base = 0; base <= 1; base++) {
                    checks.due("received(0, 3) of the bit " + base + " with the looks " + disturbed
                            + " disturbed, votes " + votes, thirdBit(votes, base, disturbed).received(0, 3), expected);
                }
            }
        }
    }

    private void falseStarts() {
        document.says("If the bit 0 is 1, this is a false start: nothing is received.");
        // The looks are at 5, 8 and 10.
        ThirdVotes x = wire(16, low(8));
        counts(x, 0, 1);
        for (int what = 0; what < 5; what++) {
            checks.due("received(0, " + what + ")", x.received(0, what), -5);
        }
        checks.due("total(13)", x.total(13), 0);
        counts(wire(16, low(9)), 1, 0);
        counts(wire(16, low(1)), 0, 1);
        counts(wire(16, low(5) + high(3) + low(1) + high(9)), 0, 1);
        counts(wire(16, low(6) + high(2) + low(1) + high(9)), 1, 0);
        ThirdVotes one = wire(16, low(5) + high(3) + low(1) + high(9));
        one.set(4, 1);
        counts(one, 1, 0);
        ThirdVotes other = wire(16, low(8) + high(1) + low(7));
        counts(other, 1, 0);
        other.set(4, 1);
        counts(other, 0, 1);
    }

    private void bitsOfAWord() {
        document.says("Otherwise it tells the 8 bits of the word, from the lowest to the highest, the parity (if the "
                + "setting 2 is not 0), and one stop.");
        ThirdVotes x = Checks.with(0, 64, 1, 4);
        for (int bit = 0; bit < 8; bit++) {
            x.send(1 << bit);
            checks.received(x, bit, GOOD, 1 << bit, 40 * bit, 0, 40 * bit + 38);
        }
        ThirdVotes y = wire(4, low(4));
        checks.due("received(0, 4) without a parity", y.received(0, 4), 38);
        y.set(2, 1);
        checks.due("received(0, 4) with a parity", y.received(0, 4), 42);
        y.set(2, 2);
        checks.due("received(0, 4) with the other parity", y.received(0, 4), 42);
        // Of two stops the second one is not told: low, it begins something else.
        ThirdVotes z = Checks.with(0, 64, 1, 4, 3, 2);
        z.send(255);
        z.disturb(40, 4);
        checks.received(z, 0, GOOD, 255, 0, 0, 38);
        checks.received(z, 1, GOOD, 255, 40, 0, 78);
        counts(z, 2, 0);
    }

    private void breaks() {
        document.says("- a break (kind 3) if all these bits, with the stop, are 0;");
        // The looks for the stop are at 149, 152 and 154.
        checks.received(wire(16, low(153)), 0, BREAK, 0, 0, 1, 154);
        checks.received(wire(16, low(152)), 0, GOOD, 0, 0, 1, 154);
        // With a parity they are at 165, 168 and 170.
        ThirdVotes x = Checks.with(2, 1);
        Checks.put(x, low(168));
        checks.received(x, 0, GOOD, 0, 0, 1, 170);
        x.set(2, 2);
        checks.received(x, 0, ODD, 0, 0, 1, 170);
        x.sendBreak(1);
        checks.received(x, 0, BREAK, 0, 0, 1, 170);
        x.set(2, 1);
        checks.received(x, 0, BREAK, 0, 0, 1, 170);
        // Any one of these bits makes it none.
        for (int bit = 1; bit <= 8; bit++) {
            ThirdVotes y = wire(4, low(4 * bit) + high(4) + low(36 - 4 * bit));
            checks.received(y, 0, UNSTOPPED, 1 << bit - 1, 0, 0, 38);
        }
        ThirdVotes z = wire(4, low(36) + high(4) + low(4));
        z.set(2, 1);
        checks.due("received(0, 0) with the parity alone", z.received(0, 0), UNSTOPPED);
        z.set(2, 0);
        checks.due("received(0, 0) with the stop alone", z.received(0, 0), GOOD);
    }

    private void unstopped() {
        document.says("- otherwise unstopped (kind 2) if the stop is 0;");
        ThirdVotes x = new ThirdVotes();
        x.send(1);
        x.disturb(149, 1);
        checks.received(x, 0, GOOD, 1, 0, 1, 154);
        x.disturb(154, 1);
        checks.received(x, 0, UNSTOPPED, 1, 0, 1, 154);
        // It comes ahead of a wrong parity: the parity 0 is wrong for 1 with the setting 2 as 1.
        ThirdVotes y = wire(4, low(4) + high(4) + low(36));
        y.set(2, 1);
        checks.received(y, 0, UNSTOPPED, 1, 0, 0, 42);
        y.set(2, 2);
        checks.received(y, 0, UNSTOPPED, 1, 0, 0, 42);
        checks.due("total(9)", y.total(9), 0);
        checks.due("total(10)", y.total(10), 1);
    }

    private void odd() {
        document.says("- otherwise odd (kind 1) if there is a parity, and it is wrong for the word;");
        int[] words = {0, 1, 127, 128, 255};
        for (int word : words) {
            ThirdVotes x = Checks.with(2, 1);
            x.send(word);
            checks.received(x, 0, GOOD, word, 0, 0, 170);
            x.set(2, 2);
            checks.received(x, 0, ODD, word, 0, 0, 170);
            x.clear();
            x.send(word);
            checks.received(x, 0, GOOD, word, 0, 0, 170);
            x.set(2, 1);
            checks.received(x, 0, ODD, word, 0, 0, 170);
        }
        // It is the word as it is told that counts.
        ThirdVotes y = Checks.with(2, 1);
        y.send(6);
        y.disturb(16, 16);
        checks.received(y, 0, ODD, 7, 0, 0, 170);
        y.disturb(144, 16);
        checks.received(y, 0, GOOD, 7, 0, 0, 170);
        y.disturb(144, 16);
        y.disturb(32, 16);
        checks.received(y, 0, GOOD, 5, 0, 0, 170);
    }

    private void good() {
        document.says("- otherwise a good word (kind 0).");
        int[] words = {0, 1, 128, 254, 255};
        for (int parity = 0; parity <= 2; parity++) {
            ThirdVotes x = Checks.with(2, parity);
            for (int rank = 0; rank < words.length; rank++) {
                int begin = x.total(5);
                x.send(words[rank]);
                checks.received(x, rank, GOOD, words[rank], begin, 0, begin + (parity == 0 ? 154 : 170));
            }
        }
        // Without a parity none can be wrong.
        ThirdVotes y = Checks.with(2, 1);
        y.send(1);
        y.set(2, 0);
        checks.received(y, 0, GOOD, 1, 0, 0, 154);
    }

    private void waitsBehindTheLastLook() {
        document.says("Then it waits anew, from the tick behind the last look on (behind a false start: behind the "
                + "third look for the bit 0);");
        // The looks for the stop are at 46, 47 and 48: a fall at 49 is the first one that counts.
        ThirdVotes x = wire(5, low(45) + high(4) + low(5));
        checks.received(x, 0, GOOD, 0, 0, 0, 48);
        checks.received(x, 1, GOOD, 255, 49, 0, 97);
        ThirdVotes y = wire(5, low(45) + high(3) + low(5));
        checks.received(y, 0, GOOD, 0, 0, 1, 48);
        counts(y, 1, 0);
        // So it is behind what is odd, and with the looks one bit later.
        ThirdVotes z = Checks.with(1, 5, 2, 2);
        Checks.put(z, low(50) + high(4) + low(5));
        checks.received(z, 0, ODD, 0, 0, 0, 53);
        checks.due("received(1, 2)", z.received(1, 2), 54);
        // And behind what is unstopped, whose last look is high here.
        ThirdVotes w = wire(5, low(5) + high(5) + low(38) + high(1) + low(5));
        checks.received(w, 0, UNSTOPPED, 1, 0, 1, 48);
        checks.received(w, 1, GOOD, 255, 49, 0, 97);
        // The looks for the start are at 2, 3 and 4: a fall at 5 is the first one that counts.
        ThirdVotes f = wire(6, "00" + "111" + low(6));
        counts(f, 1, 1);
        checks.due("received(0, 2)", f.received(0, 2), 5);
        counts(wire(6, "00" + "11" + low(6)), 0, 1);
        counts(wire(6, "0" + "1" + "0" + "11" + low(6)), 1, 1);
    }

    private void waitsBehindABreak() {
        document.says("behind a break it waits first for the level 1, from the tick behind the last look on.");
        // The last look, at 48, is high: the fall at the very tick behind it is none.
        ThirdVotes x = wire(5, low(48) + high(1) + low(5));
        checks.received(x, 0, BREAK, 0, 0, 1, 48);
        counts(x, 1, 0);
        x.pause(1);
        x.sendBreak(5);
        checks.due("received(1, 2)", x.received(1, 2), 55);
        counts(x, 2, 0);
        // The level 1 at the tick behind the last look is enough.
        ThirdVotes y = wire(5, low(49) + high(1) + low(5));
        checks.received(y, 0, BREAK, 0, 0, 0, 48);
        checks.received(y, 1, GOOD, 255, 50, 0, 98);
        ThirdVotes z = wire(5, low(48) + high(2) + low(5));
        checks.received(z, 1, GOOD, 255, 50, 0, 98);
        // A break may be longer, and is one all the same.
        ThirdVotes w = wire(5, low(300) + high(1) + low(49) + high(9));
        checks.received(w, 0, BREAK, 0, 0, 0, 48);
        checks.received(w, 1, BREAK, 0, 301, 0, 349);
        counts(w, 2, 0);
    }

    private void stops() {
        document.says("It stops when there is no such tick t any more; the last bits may be told from looks beyond the "
                + "end.");
        counts(new ThirdVotes(), 0, 0);
        counts(wire(4, high(500)), 0, 0);
        counts(wire(4, high(9) + low(1)), 0, 1);
        // The looks for the start are at 13, 20 and 26, the last one beyond the end.
        counts(wire(40, low(20)), 0, 1);
        ThirdVotes x = wire(40, low(21));
        checks.received(x, 0, GOOD, 255, 0, 1, 386);
        counts(x, 1, 0);
        ThirdVotes y = wire(4, high(1497) + low(3));
        checks.received(y, 0, GOOD, 255, 1497, 0, 1535);
        counts(y, 1, 0);
        counts(wire(4, high(1498) + low(2)), 0, 1);
        counts(wire(4, low(500) + low(500) + low(500)), 1, 0);
        // As many words as fit on the wire.
        ThirdVotes z = Checks.with(0, 64, 1, 4);
        Checks.write(z, "9(00),9(00),9(00),9(00),00");
        checks.due("perform()", z.perform(), 1480);
        counts(z, 37, 0);
    }

    private void well(String with, ThirdVotes x, int isWell) {
        checks.due("total(14) with " + with, x.total(14), isWell);
    }

    private void allIsWell() {
        document.says("All is well if all that is received are good words, and these are the words that were sent "
                + "since the wire was cleared, in order.");
        well("nothing", new ThirdVotes(), 1);
        well("a false start alone", wire(4, low(1)), 1);
        well("a good word that was not sent", wire(4, low(4)), 0);
        well("a break alone", wire(4, low(40)), 0);
        ThirdVotes x = new ThirdVotes();
        x.send(0);
        x.send(255);
        well("two words", x, 1);
        x.sendBreak(8);
        well("a false start behind them", x, 1);
        x.sendBreak(16);
        well("another good word", x, 0);
        x.undo();
        x.disturb(160, 16);
        well("one word less", x, 0);
        x.undo();
        x.disturb(16, 16);
        well("another word than was sent", x, 0);
        x.undo();
        x.disturb(144, 16);
        well("a break where 0 was sent", x, 0);
        x.undo();
        x.disturb(304, 16);
        well("no stop behind the right word", x, 0);
        ThirdVotes y = Checks.with(2, 1);
        y.send(85);
        well("a parity", y, 1);
        y.set(2, 2);
        well("a wrong parity", y, 0);
        y.clear();
        well("a cleared wire", y, 1);
        y.send(85);
        well("a word since it was cleared", y, 1);
        well("the words in another order", inAnotherOrder(), 0);
    }

    /** Sends 1 and 2, and disturbs them so that 2 and 1 are received. */
    private static ThirdVotes inAnotherOrder() {
        ThirdVotes x = new ThirdVotes();
        x.send(1);
        x.send(2);
        x.disturb(16, 32);
        x.disturb(176, 32);
        return x;
    }

    private void falls() {
        document.says("The ticks at which the level is 0, and 1 at the tick ahead, are falls.");
        int[][] falls = {{0, 3, 6, 9}, {1, 4, 7, 10}, {61, 64, 67, 70}, {62, 65, 68, 71}, {63, 66, 69, 72},
            {64, 67, 70, 73}, {1490, 1493, 1496, 1499}};
        for (int[] due : falls) {
            ThirdVotes x = new ThirdVotes();
            Checks.pauseUpTo(x, due[0]);
            Checks.put(x, "0010010010");
            checks.due("total(15) from " + due[0] + " on", x.total(15), 4);
            for (int rank = 0; rank < 4; rank++) {
                checks.due("fall(" + rank + ")", x.fall(rank), due[rank]);
            }
            checks.due("fall(4)", x.fall(4), -5);
        }
        checks.due("total(15) of an empty wire", new ThirdVotes().total(15), 0);
        checks.due("total(15) of high ticks", wire(4, high(70)).total(15), 0);
        checks.due("total(15) of low ticks", wire(4, low(130)).total(15), 1);
    }

    /** Some falls, of which the last one is some ticks behind the first one, at the tick 7. */
    private static ThirdVotes fallsApart(int falls, int ticks) {
        return wire(16, high(7) + "01".repeat(falls - 1) + high(ticks - 2 * (falls - 1)) + low(2));
    }

    private void learned() {
        document.says("The length that is learned is the tick of the fifth fall less that of the first one, and 4, "
                + "together, divided by 8 (rounded down);");
        int[][] ticksAndLengths = {{35, 4}, {36, 5}, {43, 5}, {44, 6}, {128, 16}, {131, 16}, {132, 17}, {315, 39},
            {316, 40}};
        for (int[] pair : ticksAndLengths) {
            ThirdVotes x = fallsApart(5, pair[0]);
            checks.due("total(17) with " + pair[0] + " ticks", x.total(17), pair[1]);
            // A sixth fall makes no difference.
            x.pause(90);
            x.sendBreak(1);
            checks.due("total(17) with " + pair[0] + " ticks and a sixth fall", x.total(17), pair[1]);
        }
    }

    private void notLearned() {
        document.says("there is none if there are fewer than 5 falls, or the length is not 4 to 40.");
        checks.due("total(17) of an empty wire", new ThirdVotes().total(17), -5);
        checks.due("total(17) with 4 falls", fallsApart(4, 128).total(17), -5);
        checks.due("total(17) with 5 falls", fallsApart(5, 128).total(17), 16);
        int[][] ticksAndLengths = {{9, -5}, {27, -5}, {28, 4}, {323, 40}, {324, -5}, {500, -5}};
        for (int[] pair : ticksAndLengths) {
            ThirdVotes x = fallsApart(5, pair[0]);
            checks.due("total(17) with " + pair[0] + " ticks", x.total(17), pair[1]);
            checks.due("learn() with " + pair[0] + " ticks", x.learn(), pair[1]);
            checks.due("total(1) behind it", x.total(1), pair[1] == -5 ? 16 : pair[1]);
        }
    }

    private void word85() {
        document.says("(A word 85 has just five falls in the first nine bits.)");
        ThirdVotes x = new ThirdVotes();
        x.send(85);
        checks.due("total(15)", x.total(15), 5);
        for (int rank = 0; rank < 5; rank++) {
            checks.due("fall(" + rank + ")", x.fall(rank), 32 * rank);
        }
        checks.due("total(17)", x.total(17), 16);
        int[] lengths = {4, 5, 23, 39, 40};
        for (int length : lengths) {
            ThirdVotes y = Checks.with(0, 16 * length, 2, 1, 3, 2);
            y.send(85);
            checks.due("total(17) with bits of " + length, y.total(17), length);
        }
    }
}
