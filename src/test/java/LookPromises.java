/** Promises 15 to 23, sentence by sentence. */
final class LookPromises {

    private final Sentences document;
    private final Checks checks;

    LookPromises(Sentences document, Checks checks) {
        this.document = document;
        this.checks = checks;
    }

    void all() {
        level();
        fall();
        sent();
        received();
        total();
        ifLength();
        goodLength();
        harm();
        ifSent();
    }

    private static ThirdVotes wire(int length, String levels) {
        ThirdVotes x = Checks.with(1, length);
        Checks.put(x, levels);
        return x;
    }

    private static String low(int ticks) {
        return "0".repeat(ticks);
    }

    private static String high(int ticks) {
        return "1".repeat(ticks);
    }

    private void level() {
        document.in("Promise 15: level");
        document.says("`int level(int tick)`: Returns the level at a tick.");
        ThirdVotes x = wire(16, low(3) + high(61) + low(1) + high(63) + low(2));
        checks.levels(x, 0, "00011");
        checks.levels(x, 62, "1101");
        checks.levels(x, 126, "11001");
        document.says("- `tick`: 0 or more");
        checks.due("level(-1)", x.level(-1), -2);
        checks.due("level(least)", x.level(Integer.MIN_VALUE), -2);
        checks.due("level(0)", x.level(0), 0);
        checks.due("level(-1) of an empty wire", new ThirdVotes().level(-1), -2);
        document.says("Returns 0 or 1 (1 from the end on); OUT_OF_RANGE.");
        checks.due("level(129)", x.level(129), 0);
        checks.due("level(130)", x.level(130), 1);
        for (int tick : new int[] {0, 1, 1499, 1500, 1501, 4096, 100_000, Integer.MAX_VALUE}) {
            checks.due("level(" + tick + ") of an empty wire", new ThirdVotes().level(tick), 1);
        }
        ThirdVotes y = wire(16, low(500) + low(500) + low(500));
        checks.due("level(1499)", y.level(1499), 0);
        checks.due("level(1500)", y.level(1500), 1);
        checks.due("level(greatest)", y.level(Integer.MAX_VALUE), 1);
    }

    private void fall() {
        document.in("Promise 16: fall");
        document.says("`int fall(int rank)`: Returns a fall.");
        ThirdVotes x = wire(16, low(2) + high(1) + low(1) + high(60) + low(9) + high(1));
        checks.due("fall(1)", x.fall(1), 3);
        x.disturb(3, 1);
        checks.due("fall(1) without one of them", x.fall(1), 64);
        x.disturb(3, 1);
        document.says("- `rank`: 0 for the first one, and so on");
        checks.due("fall(0)", x.fall(0), 0);
        checks.due("fall(1)", x.fall(1), 3);
        checks.due("fall(2)", x.fall(2), 64);
        document.says("Returns the tick; OUT_OF_RANGE if rank is negative; NONE if there are not so many.");
        checks.due("fall(3)", x.fall(3), -5);
        checks.due("fall(greatest)", x.fall(Integer.MAX_VALUE), -5);
        checks.due("fall(-1)", x.fall(-1), -2);
        checks.due("fall(least)", x.fall(Integer.MIN_VALUE), -2);
        checks.due("fall(0) of an empty wire", new ThirdVotes().fall(0), -5);
        checks.due("fall(-1) of an empty wire", new ThirdVotes().fall(-1), -2);
        ThirdVotes many = wire(16, "01".repeat(120));
        checks.due("fall(119)", many.fall(119), 238);
        checks.due("fall(120)", many.fall(120), -5);
    }

    private void sent() {
        document.in("Promise 17: sent");
        document.says("`int sent(int rank)`: Returns a word that was sent since the wire was cleared.");
        ThirdVotes x = new ThirdVotes();
        x.send(99);
        checks.due("sent(0)", x.sent(0), 99);
        x.clear();
        checks.due("sent(0) of a cleared wire", x.sent(0), -5);
        x.send(200);
        Checks.write(x, "2(_9,0a)");
        x.perform();
        x.disturb(0, 40);
        checks.due("sent(0) since it was cleared", x.sent(0), 200);
        document.says("- `rank`: 0 for the first one, and so on");
        checks.due("sent(0)", x.sent(0), 200);
        checks.due("sent(1)", x.sent(1), 10);
        checks.due("sent(2)", x.sent(2), 10);
        document.says("Returns the word; OUT_OF_RANGE if rank is negative; NONE if there are not so many.");
        checks.due("sent(3)", x.sent(3), -5);
        checks.due("sent(greatest)", x.sent(Integer.MAX_VALUE), -5);
        checks.due("sent(-1)", x.sent(-1), -2);
        checks.due("sent(least)", x.sent(Integer.MIN_VALUE), -2);
        x.clear();
        checks.due("sent(0) of a cleared wire", x.sent(0), -5);
        checks.due("sent(-1) of a cleared wire", x.sent(-1), -2);
        ThirdVotes many = Checks.with(0, 64);
        Checks.write(many, "9(01),9(02),9(03),9(04),fe");
        many.perform();
        checks.due("sent(35)", many.sent(35), 4);
        checks.due("sent(36)", many.sent(36), 254);
        checks.due("sent(37)", many.sent(37), -5);
    }

    /** A false start, an odd word 1 and a break, told with a parity. */
    private static ThirdVotes threeThings() {
        ThirdVotes x = Checks.with(2, 1);
        x.sendBreak(8);
        x.pause(12);
        Checks.put(x, low(16) + high(16) + low(128) + high(16));
        x.pause(24);
        x.sendBreak(200);
        return x;
    }

    private void received() {
        document.in("Promise 18: received");
        document.says("`int received(int rank, int what)`: Returns something of what is received.");
        ThirdVotes x = threeThings();
        checks.received(x, 0, 1, 1, 20, 0, 190);
        x.set(2, 0);
        checks.received(x, 0, 2, 1, 20, 0, 174);
        x.undo();
        document.says("- `rank`: 0 for the first one, and so on (false starts are none)");
        checks.due("total(12)", x.total(12), 1);
        checks.due("received(0, 2)", x.received(0, 2), 20);
        checks.due("received(1, 2)", x.received(1, 2), 220);
        checks.due("received(2, 2)", x.received(2, 2), -5);
        document.says("- `what`: 0 for its kind, 1 for the word (as it was told, also with the kinds 1 to 3), 2 for the "
                + "tick t at which it began, 3 for how many of its bits are doubtful (the start, the word, the parity "
                + "and the stop), 4 for the tick of the last look");
        whatIsReceived();
        document.says("Returns the number; OUT_OF_RANGE (rank is negative, or what); NONE if there are not so many.");
        for (int what = 0; what <= 4; what++) {
            checks.holds("received(1, " + what + ") answers a number", x.received(1, what) >= 0);
            checks.due("received(2, " + what + ")", x.received(2, what), -5);
            checks.due("received(greatest, " + what + ")", x.received(Integer.MAX_VALUE, what), -5);
            checks.due("received(-1, " + what + ")", x.received(-1, what), -2);
            checks.due("received(least, " + what + ")", x.received(Integer.MIN_VALUE, what), -2);
        }
        for (int what : new int[] {-1, 5, Integer.MIN_VALUE, Integer.MAX_VALUE}) {
            checks.due("received(0, " + what + ")", x.received(0, what), -2);
            checks.due("received(2, " + what + ")", x.received(2, what), -2);
            checks.due("received(-1, " + what + ")", x.received(-1, what), -2);
        }
        checks.due("received(0, 0) of an empty wire", new ThirdVotes().received(0, 0), -5);
        mostThatCanBeReceived();
    }

    private void whatIsReceived() {
        // One look is disturbed in the start, the word, the parity and the stop.
        ThirdVotes x = threeThings();
        checks.received(x, 0, 1, 1, 20, 0, 190);
        checks.received(x, 1, 3, 0, 220, 0, 390);
        int[] disturbed = {20 + 5, 20 + 64 + 8, 20 + 144 + 10, 20 + 160 + 5};
        for (int index = 0; index < disturbed.length; index++) {
            x.disturb(disturbed[index], 1);
            checks.received(x, 0, 1, 1, 20, index + 1, 190);
        }
        // Without its stop it is unstopped, with the parity a good word; the word is told all the same.
        ThirdVotes y = threeThings();
        y.disturb(180, 16);
        checks.received(y, 0, 2, 1, 20, 0, 190);
        y.undo();
        y.disturb(164, 16);
        checks.received(y, 0, 0, 1, 20, 0, 190);
        checks.due("received(1, 1), the word of a break", y.received(1, 1), 0);
    }

    private void mostThatCanBeReceived() {
        ThirdVotes x = Checks.with(1, 4);
        Checks.write(x, "9(_36,.3),9(_36,.3),9(_36,.3),9(_36,.3),2(_36,.3),_18");
        checks.due("perform()", x.perform(), 1500);
        checks.due("total(7)", x.total(7), 39);
        checks.received(x, 37, 0, 0, 1443, 0, 1481);
        checks.received(x, 38, 0, 248, 1482, 1, 1520);
        checks.due("received(39, 0)", x.received(39, 0), -5);
    }

    private void total() {
        document.in("Promise 19: total");
        document.says("`int total(int what)`: Returns a number of the whole.");
        ThirdVotes two = new ThirdVotes();
        two.send(1);
        two.send(2);
        checks.due("total(7)", two.total(7), 2);
        checks.due("total(8)", two.total(8), 2);
        checks.due("total(15)", two.total(15), 4);
        document.says("- `what`: 0 to 4 for the settings, 5 for the end of the wire, 6 for the words that were sent since "
                + "it was cleared, 7 for what is received, 8 to 11 for good words, odd ones, unstopped ones and breaks "
                + "in it, 12 for false starts, 13 for doubtful bits in all that is received (not of false starts), 14 "
                + "for whether all is well (1, otherwise 0), 15 for falls, 16 for ticks ahead of the end with the "
                + "level 0, 17 for the length that is learned (NONE without one), 18 for the states in the history, 19 "
                + "for the length of the text");
        eachTotal();
        totalsAtTheirEdges();
        document.says("Returns the number; OUT_OF_RANGE.");
        ThirdVotes x = new ThirdVotes();
        for (int what : new int[] {-1, 20, 21, Integer.MIN_VALUE, Integer.MAX_VALUE}) {
            checks.due("total(" + what + ")", x.total(what), -2);
        }
        checks.due("total(0)", x.total(0), 256);
        checks.due("total(19)", x.total(19), 0);
    }

    private void eachTotal() {
        ThirdVotes x = Checks.with(0, 64, 1, 4, 2, 1, 3, 2);
        Checks.write(x, "07,03,01,80,.8,_50,.10,_60,.9,_1,.5,_1,.5,_1,.5");
        x.perform();
        // The word at 48 gets a wrong parity, those at 96 and 144 no stop; one look in the first two is disturbed.
        x.disturb(48 + 36, 4);
        x.disturb(96 + 40, 4);
        x.disturb(144 + 40, 4);
        x.disturb(5, 1);
        x.disturb(48 + 5, 1);
        Checks.write(x, ".1");
        int[] falls = {0, 5, 16, 48, 53, 60, 96, 104, 136, 144, 184, 200, 260, 329, 335, 341};
        int lowTicks = (4 + 1 + 20) + (4 + 1 + 24) + (4 + 28 + 4) + (32 + 4) + 50 + 60 + 3;
        int[] totals = {64, 4, 1, 2, 0, 347, 4, 6, 1, 1, 2, 2, 3, 2, 0, falls.length, lowTicks, (53 - 0 + 4) / 8, 4, 2};
        for (int what = 0; what < totals.length; what++) {
            checks.due("total(" + what + ")", x.total(what), totals[what]);
        }
        for (int rank = 0; rank < falls.length; rank++) {
            checks.due("fall(" + rank + ")", x.fall(rank), falls[rank]);
        }
    }

    private void totalsAtTheirEdges() {
        ThirdVotes empty = new ThirdVotes();
        int[] totals = {256, 16, 0, 1, 0, 0, 0, 0, 0, 0, 0, 0, 0, 0, 1, 0, 0, -5, 0, 0};
        for (int what = 0; what < totals.length; what++) {
            checks.due("total(" + what + ") of an empty wire", empty.total(what), totals[what]);
        }
        // A false start with looks that are not alike has no doubtful bits, nor is it received.
        ThirdVotes falseStart = wire(16, low(8));
        checks.due("total(12)", falseStart.total(12), 1);
        checks.due("total(13)", falseStart.total(13), 0);
        checks.due("total(7)", falseStart.total(7), 0);
        checks.due("total(14)", falseStart.total(14), 1);
        falseStart.pause(9);
        falseStart.send(1);
        checks.due("total(13) with a word behind it", falseStart.total(13), 0);
        falseStart.disturb(17 + 21, 1);
        checks.due("total(13) with a doubtful word behind it", falseStart.total(13), 1);
        // All of the wire is low.
        ThirdVotes full = wire(16, low(500) + low(500) + low(500));
        int[][] ofFull = {{5, 1500}, {6, 0}, {7, 1}, {8, 0}, {11, 1}, {14, 0}, {15, 1}, {16, 1500}, {17, -5}, {18, 3}};
        for (int[] pair : ofFull) {
            checks.due("total(" + pair[0] + ") of a low wire", full.total(pair[0]), pair[1]);
        }
        // 37 words are the most, and 750 falls.
        ThirdVotes words = Checks.with(0, 64, 1, 4);
        Checks.write(words, "9(55),9(55),9(55),9(55),55");
        words.perform();
        int[][] ofWords = {{5, 1480}, {6, 37}, {7, 37}, {8, 37}, {14, 1}, {15, 185}, {16, 740}, {17, 4}, {19, 26}};
        for (int[] pair : ofWords) {
            checks.due("total(" + pair[0] + ") of 37 words", words.total(pair[0]), pair[1]);
        }
        words.clear();
        checks.due("total(6) of a cleared wire", words.total(6), 0);
        Checks.write(words, "9(9(9(_1,.1))),7(3(_1,.1))");
        checks.due("perform()", words.perform(), 1500);
        checks.due("total(15) with as many falls as there can be", words.total(15), 750);
        checks.due("total(16) with as many falls as there can be", words.total(16), 750);
        checks.due("fall(749)", words.fall(749), 1498);
        checks.due("fall(750)", words.fall(750), -5);
    }

    private void ifLength() {
        document.in("Promise 20: ifLength");
        document.says("`int ifLength(int length, int what)`: Tells what would be with another length of the receiver's "
                + "bits.");
        sameAsWithTheSetting(new int[] {0, 255}, 0);
        sameAsWithTheSetting(new int[] {85, 3, 129}, 1);
        ThirdVotes x = new ThirdVotes();
        x.send(0);
        x.send(255);
        x.ifLength(4, 0);
        checks.due("total(1)", x.total(1), 16);
        checks.due("total(18)", x.total(18), 2);
        document.says("- `length`: 4 to 40");
        checks.due("ifLength(3, 0)", x.ifLength(3, 0), -2);
        // With 4 the first word is a break; the start of the second one is four bits, and 248 is told.
        checks.due("ifLength(4, 0)", x.ifLength(4, 0), 2);
        // With 40 the low ticks are the start, two bits, and two looks of the bit 3: 240 is told, up to 386.
        checks.due("ifLength(40, 0)", x.ifLength(40, 0), 1);
        checks.due("ifLength(41, 0)", x.ifLength(41, 0), -2);
        checks.due("ifLength(least, 0)", x.ifLength(Integer.MIN_VALUE, 0), -2);
        checks.due("ifLength(greatest, 0)", x.ifLength(Integer.MAX_VALUE, 0), -2);
        document.says("- `what`: 0 for what would be received, 1 for the good words in it, 2 for doubtful bits, 3 for "
                + "whether all would be well (1, otherwise 0)");
        whatWouldBe(x, 16, 2, 2, 0, 1);
        whatWouldBe(x, 4, 2, 1, 0, 0);
        whatWouldBe(x, 12, 2, 1, 0, 0);
        x.disturb(21, 1);
        x.disturb(42, 1);
        whatWouldBe(x, 16, 2, 2, 2, 1);
        whatWouldBe(new ThirdVotes(), 4, 0, 0, 0, 1);
        whatWouldBe(wire(16, low(8)), 16, 0, 0, 0, 1);
        whatWouldBe(wire(16, low(8)), 8, 1, 1, 0, 0);
        checks.due("ifLength(16, -1)", x.ifLength(16, -1), -2);
        checks.due("ifLength(16, 4)", x.ifLength(16, 4), -2);
        checks.due("ifLength(16, least)", x.ifLength(16, Integer.MIN_VALUE), -2);
        checks.due("ifLength(16, greatest)", x.ifLength(16, Integer.MAX_VALUE), -2);
        document.says("Returns the number; OUT_OF_RANGE.");
        checks.due("ifLength(3, 4)", x.ifLength(3, 4), -2);
        checks.due("ifLength(41, -1)", x.ifLength(41, -1), -2);
        checks.due("ifLength(40, 3) of an empty wire", new ThirdVotes().ifLength(40, 3), 1);
        checks.due("ifLength(4, 3) of an empty wire", new ThirdVotes().ifLength(4, 3), 1);
    }

    private void whatWouldBe(ThirdVotes x, int length, int... due) {
        for (int what = 0; what < due.length; what++) {
            checks.due("ifLength(" + length + ", " + what + ")", x.ifLength(length, what), due[what]);
        }
    }

    /** Each length is the same as if it was set. */
    private void sameAsWithTheSetting(int[] words, int votes) {
        ThirdVotes x = Checks.with(2, 1, 4, votes);
        for (int word : words) {
            x.send(word);
        }
        x.disturb(24, 3);
        x.keep();
        int[] whats = {7, 8, 13, 14};
        ThirdVotes y = Checks.with(2, 1, 4, votes);
        for (int word : words) {
            y.send(word);
        }
        y.disturb(24, 3);
        for (int length = 4; length <= 40; length++) {
            y.set(1, length);
            for (int what = 0; what < whats.length; what++) {
                checks.due("ifLength(" + length + ", " + what + ")", x.ifLength(length, what), y.total(whats[what]));
            }
        }
    }

    private void goodLength() {
        document.in("Promise 21: goodLength");
        document.says("`int goodLength(boolean isGreatest)`: Finds the lengths of the receiver's bits with which all "
                + "would be well.");
        ThirdVotes x = new ThirdVotes();
        x.send(255);
        // A start of 16 ticks is told up to 31 by the looks at r / 3 and r / 2; the bit 1 from 11 on by two looks.
        lengths(x, 11, 31);
        x.set(1, 40);
        lengths(x, 11, 31);
        checks.due("total(1)", x.total(1), 40);
        checks.due("total(18)", x.total(18), 2);
        x.send(0);
        x.undo();
        lengths(x, 11, 31);
        ThirdVotes both = new ThirdVotes();
        both.send(0);
        both.send(255);
        lengths(both, 16, 16);
        // The tick 10 is the first look of 30 and 31, whose third one is high, and the second one of 20 and 21.
        ThirdVotes votes = new ThirdVotes();
        votes.send(255);
        votes.disturb(10, 1);
        lengths(votes, 11, 29);
        votes.set(4, 1);
        // With one vote it is that of the bit 1 with 7.
        lengths(votes, 7, 31);
        document.says("- `isGreatest`: whether the greatest one is returned, otherwise the least one");
        ThirdVotes least = Checks.with(0, 64);
        least.send(255);
        lengths(least, 4, 7);
        ThirdVotes greatest = Checks.with(0, 640);
        greatest.send(255);
        lengths(greatest, 27, 40);
        lengths(new ThirdVotes(), 4, 40);
        document.says("Returns the length; NONE if there is none.");
        lengths(wire(16, low(500)), -5, -5);
        ThirdVotes lost = new ThirdVotes();
        lost.send(255);
        lost.disturb(0, 16);
        lengths(lost, -5, -5);
        lost.clear();
        lengths(lost, 4, 40);
    }

    private void lengths(ThirdVotes x, int least, int greatest) {
        checks.due("goodLength(false)", x.goodLength(false), least);
        checks.due("goodLength(true)", x.goodLength(true), greatest);
    }

    private void harms(String where, ThirdVotes x, int ticks, int due) {
        checks.due("harm(" + ticks + ") " + where, x.harm(ticks), due);
    }

    private void harm() {
        document.in("Promise 22: harm");
        document.says("`int harm(int ticks)`: Finds the first tick at which a disturbance of some ticks would do harm: all "
                + "would not be well with it (whether all is well without it or not).");
        ThirdVotes x = new ThirdVotes();
        x.pause(3);
        x.send(0);
        // The looks for the start are at 8, 11 and 13.
        harms("of a word", x, 1, -5);
        harms("of a word", x, 2, -5);
        harms("of a word", x, 3, 11);
        harms("of a word", x, 4, 8);
        harms("of a word", x, 40, 0);
        x.set(4, 1);
        harms("of a word with one vote", x, 1, 11);
        harms("of a word with one vote", x, 2, 10);
        checks.due("total(18)", x.total(18), 3);
        checks.due("total(14)", x.total(14), 1);
        // Without it all is not well: a good word was not sent. It is harm if it stays so.
        ThirdVotes y = wire(16, low(16) + high(30));
        checks.due("total(14)", y.total(14), 0);
        harms("of a word that was not sent", y, 1, 0);
        // 16 ticks from 0 on would heal it; from 9 on the start is told by the looks at 5 and 8.
        harms("of a word that was not sent", y, 16, 9);
        // With 40 a low look at 13 needs one at 20 to be a start: that is the last tick.
        ThirdVotes last = wire(40, low(20) + high(1));
        harms("at the last tick", last, 1, 20);
        harms("at the last two ticks", last, 2, 19);
        document.says("- `ticks`: 1 to 40");
        for (int ticks : new int[] {0, -1, 41, Integer.MIN_VALUE, Integer.MAX_VALUE}) {
            harms("of a word", x, ticks, -2);
            harms("of an empty wire", new ThirdVotes(), ticks, -2);
        }
        document.says("Returns the first tick of the disturbance; OUT_OF_RANGE; NONE if none would (also if the wire has "
                + "not so many ticks).");
        harms("of an empty wire", new ThirdVotes(), 1, -5);
        harms("of an empty wire", new ThirdVotes(), 40, -5);
        harms("of 39 ticks", wire(16, high(39)), 40, -5);
        harms("of 40 ticks", wire(16, high(40)), 40, 0);
        harms("of 2 ticks", wire(4, high(2)), 3, -5);
        harms("of 3 ticks", wire(4, high(3)), 3, 0);
        harms("of 3 ticks", wire(4, high(3)), 2, -5);
        // Nor is it harm that all is not well where no disturbance has room.
        ThirdVotes four = wire(4, low(4));
        checks.due("total(14)", four.total(14), 0);
        harms("of a low wire of 4 ticks", four, 5, -5);
        harms("of a low wire of 4 ticks", four, 4, -5);
        harms("of a low wire of 4 ticks", four, 1, 0);
    }

    private void ifSent() {
        document.in("Promise 23: ifSent");
        document.says("`int ifSent(int word)`: Tells what would be received if a word was sent now.");
        ThirdVotes x = new ThirdVotes();
        checks.due("ifSent(255)", x.ifSent(255), 1);
        checks.due("total(5)", x.total(5), 0);
        checks.due("total(18)", x.total(18), 0);
        // Low at the end, what is told there becomes another word: its bit 1 is the start of the word to be sent.
        x.sendBreak(16);
        checks.due("received(0, 1)", x.received(0, 1), 255);
        checks.due("ifSent(255) behind a break", x.ifSent(255), 0);
        checks.due("ifSent(254) behind a break", x.ifSent(254), 0);
        x.clear();
        x.set(1, 40);
        checks.due("ifSent(255) with another length", x.ifSent(255), 0);
        document.says("- `word`: 0 to 255");
        ThirdVotes y = new ThirdVotes();
        checks.due("ifSent(0)", y.ifSent(0), 1);
        checks.due("ifSent(255)", y.ifSent(255), 1);
        checks.due("ifSent(-1)", y.ifSent(-1), -2);
        checks.due("ifSent(256)", y.ifSent(256), -2);
        checks.due("ifSent(least)", y.ifSent(Integer.MIN_VALUE), -2);
        checks.due("ifSent(greatest)", y.ifSent(Integer.MAX_VALUE), -2);
        document.says("Returns how many good words with this value would be received then; OUT_OF_RANGE; FULL if the end "
                + "would be greater than 1500.");
        howManyWords();
        ThirdVotes full = new ThirdVotes();
        Checks.pauseUpTo(full, 1340);
        checks.due("ifSent(7) up to 1500", full.ifSent(7), 1);
        full.pause(1);
        checks.due("ifSent(7) up to 1501", full.ifSent(7), -3);
        checks.due("ifSent(256) up to 1501", full.ifSent(256), -2);
        checks.due("total(5)", full.total(5), 1341);
        full.set(0, 255);
        checks.due("ifSent(7) up to 1500.375", full.ifSent(7), 1);
    }

    private void howManyWords() {
        ThirdVotes x = new ThirdVotes();
        x.send(3);
        x.send(4);
        x.send(3);
        checks.due("ifSent(3)", x.ifSent(3), 3);
        checks.due("ifSent(4)", x.ifSent(4), 2);
        checks.due("ifSent(5)", x.ifSent(5), 1);
        x.disturb(16, 16);
        checks.due("ifSent(3) with one told as 2", x.ifSent(3), 2);
        checks.due("ifSent(2) with one told as 2", x.ifSent(2), 2);
        x.disturb(469, 6);
        checks.due("ifSent(3) with one without a stop", x.ifSent(3), 1);
        ThirdVotes y = Checks.with(2, 1);
        y.send(3);
        y.set(2, 2);
        checks.due("ifSent(3) with one that is odd", y.ifSent(3), 1);
        y.clear();
        checks.due("ifSent(3) of a cleared wire", y.ifSent(3), 1);
        // The word of a break is 0, but no good one.
        ThirdVotes broken = new ThirdVotes();
        broken.sendBreak(200);
        broken.pause(9);
        checks.due("ifSent(0) behind a break", broken.ifSent(0), 1);
        // A word that was not sent counts, too.
        ThirdVotes z = new ThirdVotes();
        z.sendBreak(16);
        z.pause(144);
        checks.due("ifSent(255) behind one that was not sent", z.ifSent(255), 2);
    }
}
