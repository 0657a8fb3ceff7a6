/** What stands under "Terms" about texts. */
final class TextSentences {

    private final Sentences document;
    private final Checks checks;

    TextSentences(Sentences document, Checks checks) {
        this.document = document;
        this.checks = checks;
    }

    void all() {
        document.in("Terms");
        document.namesNothingToTest("TEXTS");
        sixtyCharacters();
        programs();
        items();
        numbers();
        behindADigit();
        faults();
    }

    /** Performs a text on a wire with the shortest bits, whose words take 40 ticks each. */
    private ThirdVotes perform(String text, int due) {
        ThirdVotes x = Checks.with(0, 64);
        Checks.write(x, text);
        checks.due("perform() of \"" + text + "\"", x.perform(), due);
        return x;
    }

    private void sends(String text, int end, int... words) {
        ThirdVotes x = perform(text, end);
        checks.due("total(6) behind \"" + text + "\"", x.total(6), words.length);
        for (int rank = 0; rank < words.length; rank++) {
            checks.due("sent(" + rank + ") behind \"" + text + "\"", x.sent(rank), words[rank]);
        }
    }

    private void puts(String text, String levels) {
        ThirdVotes x = perform(text, levels.length());
        checks.levels(x, 0, levels + "1");
        checks.due("total(6) behind \"" + text + "\"", x.total(6), 0);
    }

    private void fault(String text, int index) {
        perform(text, -100 - index);
    }

    private void sixtyCharacters() {
        document.says("There is a text of at most 60 characters, empty at first.");
        ThirdVotes x = new ThirdVotes();
        checks.due("total(19)", x.total(19), 0);
        checks.due("perform()", x.perform(), -100);
        checks.due("clearText()", x.clearText(), 0);
        String text = ".1,".repeat(19) + ".12";
        for (int index = 0; index < 60; index++) {
            checks.due("type at " + index, x.type(text.charAt(index)), index + 1);
        }
        checks.due("perform()", x.perform(), 31);
        checks.due("type at 60", x.type('3'), -3);
        checks.due("total(19)", x.total(19), 60);
        checks.due("perform()", x.perform(), 62);
        x.clearText();
        checks.due("type at 0", x.type('3'), 1);
    }

    private void programs() {
        document.says("A program is a list of one or more items with \",\" between two.");
        puts(".2", "11");
        puts(".2,_1", "110");
        puts("_1,.1,_2,.2,_1", "0100110");
        sends("01,02,03", 120, 1, 2, 3);
        fault("", 0);
        fault(",", 0);
        fault(",.1", 0);
        fault(".1,", 3);
        fault(".1,,.1", 3);
        fault("01 02", 2);
        fault("0102", 2);
        fault("01.1", 2);
        fault(".1_1", 2);
        fault("2(.1)2(.1)", 5);
        // So it is with the program of a repeat.
        puts("2(_1,.1,_2)", "01000100");
        fault("2()", 2);
        fault("2(,.1)", 2);
        fault("2(.1,)", 5);
        fault("2(.1,,.1)", 5);
        fault("2(0102)", 4);
    }

    private void items() {
        document.says("An item is a word (two digits from \"0\" to \"9\" or letters from \"a\" to \"f\", in base 16), "
                + "\".\" and a number (a pause), \"_\" and a number (a break), or a digit from \"2\" to \"9\", \"(\", a "
                + "program, and \")\" (it is sent so many times).");
        sends("00", 40, 0);
        sends("09", 40, 9);
        sends("0a", 40, 10);
        sends("0f", 40, 15);
        sends("10", 40, 16);
        sends("90", 40, 144);
        sends("99", 40, 153);
        sends("a0", 40, 160);
        sends("f0", 40, 240);
        sends("ff", 40, 255);
        // The neighbours of the digits and letters, at the first place and at the second one.
        for (char wrong : new char[] {'/', ':', '`', 'g', '@', 'A', 'F', 'G'}) {
            fault(wrong + "0", 0);
            fault("0" + wrong, 1);
            fault("2" + wrong, 1);
            fault("a" + wrong, 1);
        }
        puts(".3", "111");
        puts("_3", "000");
        fault("-3", 0);
        fault("^3", 0);
        sends("2(7f)", 80, 127, 127);
        sends("9(7f)", 360, 127, 127, 127, 127, 127, 127, 127, 127, 127);
        puts("3(_1,.1)", "010101");
        puts("2(3(_1),.1)", "00010001");
        puts("2(_1,2(.1),3(_1))", "011000011000");
        perform("2(2(2(2(2(01)))))", 1280);
        perform("2(".repeat(10) + ".1" + ")".repeat(10), 1024);
        fault("0(01)", 1);
        fault("1(01)", 1);
        fault("a(01)", 1);
        fault("(01)", 0);
        fault("10(01)", 2);
        fault("2(01", 4);
        fault("2(01))", 5);
        fault("01)", 2);
        fault("2)", 1);
    }

    private void numbers() {
        document.says("Numbers are 1 to 99, without zeros ahead.");
        int[] good = {1, 2, 9, 10, 19, 20, 90, 99};
        for (int number : good) {
            perform("." + number, number);
            perform("_" + number, number);
            perform("2(." + number + ")", 2 * number);
            perform("_" + number + ",.1", number + 1);
        }
        for (char first : new char[] {'.', '_'}) {
            fault(first + "0", 1);
            fault(first + "00", 1);
            fault(first + "01", 1);
            fault(first + "09", 1);
            fault(first + "100", 3);
            fault(first + "999", 3);
            fault(first + "1a", 2);
            fault(first + "a", 1);
            fault(first + "/", 1);
            fault(first + ":", 1);
            fault(first + "1/", 2);
            fault(first + "9:", 2);
            fault(first + "-1", 1);
            fault(first + "+1", 1);
            fault(first + ",", 1);
            fault("2(" + first + ")", 3);
        }
    }

    private void behindADigit() {
        document.says("(Behind a digit from \"2\" to \"9\" that begins an item there can be a second digit or letter of "
                + "a word, or \"(\".)");
        for (char digit = '2'; digit <= '9'; digit++) {
            int value = 16 * (digit - '0');
            sends(digit + "0", 40, value);
            sends(digit + "9", 40, value + 9);
            sends(digit + "a", 40, value + 10);
            sends(digit + "f", 40, value + 15);
            perform(digit + "(.1)", digit - '0');
            perform(".1," + digit + "(.1)", digit - '0' + 1);
            perform("2(" + digit + "(.1))", 2 * (digit - '0'));
            fault("" + digit, 1);
            fault(digit + ",", 1);
            fault(digit + ")", 1);
            fault(digit + ".", 1);
            fault(digit + "_", 1);
            // The second digit of a word, and those of a number, begin no item.
            fault("0" + digit + "(.1)", 2);
            fault("2" + digit + "(.1)", 2);
            fault("." + digit + "(.1)", 2);
            fault("_1" + digit + "(.1)", 3);
        }
        for (char digit : new char[] {'0', '1', 'a', 'f'}) {
            fault(digit + "(.1)", 1);
        }
    }

    private void faults() {
        document.says("The fault of the text is the index, from 0, of the first character that is not allowed at its "
                + "place, or the length of the text if it ends too early (the empty text does).");
        fault("", 0);
        fault("x", 0);
        fault("xyz", 0);
        fault("0x", 1);
        fault("01x", 2);
        fault("01,x", 3);
        fault("01,,x(", 3);
        fault("2(x", 2);
        fault("2(01x)", 4);
        fault("2(01)x", 5);
        fault("2(01)),", 5);
        fault("01)x", 2);
        // Any other character is none that is allowed.
        for (char wrong : new char[] {0, 1, 10, ' ', 127, 128, 255, 256, 0x130, 0x660, 0xff10, 0xffff}) {
            fault(String.valueOf(wrong), 0);
            fault("0" + wrong, 1);
            fault("01" + wrong, 2);
            fault("." + wrong, 1);
            fault(".1" + wrong, 2);
            fault(".10" + wrong, 3);
            fault("2(01" + wrong, 4);
        }
        String[] tooEarly = {"0", "a", "2", "9", ".", "_", "01,", ".1,", "2(", "2(2", "2(01", "2(.1", "2(.12", "2(01,",
            "2(2(01)", "9(9(9(9(01)))"};
        for (String text : tooEarly) {
            fault(text, text.length());
        }
        fault("2(".repeat(30), 60);
        fault("01,".repeat(20), 60);
        fault(".1,".repeat(19) + ".1,", 60);
        fault(".1,".repeat(19) + ".1x", 59);
        fault("2(".repeat(29) + ".)", 59);
        // It is the text that counts, and not where it might be sent: it is faulty ahead of being too long.
        fault("9(9(9(9(01))))x", 14);
    }
}
