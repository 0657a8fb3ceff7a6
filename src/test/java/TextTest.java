/** Promises 9 to 11: the text and its program. */
public final class TextTest {

    private static final Checks CHECKS = new Checks("TextTest");

    public static void main(String[] args) {
        type();
        clearText();
        performItems();
        performRepeats();
        performIsOneChange();
        faults();
        performFull();
        faultAheadOfFull();
        CHECKS.close();
    }

    private static void type() {
        ThirdVotes x = new ThirdVotes();
        char[] any = {'a', (char) 0, (char) 255, (char) 65535, ' '};
        for (int index = 0; index < 60; index++) {
            CHECKS.due("type at " + index, x.type(any[index % any.length]), index + 1);
        }
        CHECKS.due("type at 60", x.type('a'), -3);
        CHECKS.due("total(19)", x.total(19), 60);
        CHECKS.due("total(18)", x.total(18), 0);
        CHECKS.due("undo()", x.undo(), -5);
    }

    private static void clearText() {
        ThirdVotes x = new ThirdVotes();
        CHECKS.due("clearText()", x.clearText(), 0);
        Checks.write(x, "ab,cd");
        CHECKS.due("clearText()", x.clearText(), 5);
        CHECKS.due("total(19)", x.total(19), 0);
        CHECKS.due("perform()", x.perform(), -100);
        CHECKS.due("total(18)", x.total(18), 0);
        CHECKS.due("type('b')", x.type('b'), 1);
    }

    private static void sends(String text, int end, String words) {
        ThirdVotes x = new ThirdVotes();
        x.set(0, 64);
        Checks.write(x, text);
        CHECKS.due("perform() of " + text, x.perform(), end);
        CHECKS.due("total(19) behind " + text, x.total(19), text.length());
        StringBuilder got = new StringBuilder();
        for (int rank = 0; rank < x.total(6); rank++) {
            got.append(Integer.toHexString(256 + x.sent(rank)).substring(1));
        }
        CHECKS.holds("the words of " + text + " are " + words + ", they are " + got,
                got.toString().equals(words));
    }

    private static void performItems() {
        sends("a0", 40, "a0");
        sends("0f", 40, "0f");
        sends("29", 40, "29");
        sends("9f,00,ff", 120, "9f00ff");
        sends(".1", 1, "");
        sends(".9,.10,.99", 118, "");
        sends("_1,_99", 100, "");
        ThirdVotes x = new ThirdVotes();
        x.set(0, 64);
        Checks.write(x, "_3,.2,_11,.1,01");
        CHECKS.due("perform()", x.perform(), 57);
        CHECKS.levels(x, 0, "000" + "11" + "00000000000" + "1" + "0000" + "1111" + "0000");
        CHECKS.levels(x, 52, "0" + "1111" + "11");
        CHECKS.due("perform() again", x.perform(), 114);
        CHECKS.levels(x, 55, "11" + "000" + "11" + "0");
        CHECKS.due("total(6)", x.total(6), 2);
        x.set(2, 1);
        x.set(3, 2);
        CHECKS.due("perform() with a parity and two stops", x.perform(), 114 + 17 + 48);
    }

    private static void performRepeats() {
        sends("2(12)", 80, "1212");
        sends("9(.9)", 81, "");
        sends("3(1a,2(2b))", 360, "1a2b2b1a2b2b1a2b2b");
        sends("2(3(_1),.1),cd", 48, "cd");
        sends("2(2(2(2(2(.1)))))", 32, "");
        sends("22,2(22)", 120, "222222");
        sends("2(3(aa),2(bb)),cc", 440, "aaaaaabbbbaaaaaabbbbcc");
        ThirdVotes x = new ThirdVotes();
        Checks.write(x, "2(_2,.1),3(_1,.2)");
        CHECKS.due("perform()", x.perform(), 15);
        CHECKS.levels(x, 0, "001001" + "011011011" + "1");
    }

    private static void performIsOneChange() {
        ThirdVotes x = new ThirdVotes();
        x.pause(4);
        Checks.write(x, "3(01,.5,_5)");
        CHECKS.due("perform()", x.perform(), 514);
        CHECKS.due("total(18)", x.total(18), 2);
        CHECKS.due("undo()", x.undo(), 1);
        CHECKS.due("total(5)", x.total(5), 4);
        CHECKS.due("total(6)", x.total(6), 0);
        CHECKS.due("total(19)", x.total(19), 11);
    }

    private static void fault(String text, int index) {
        ThirdVotes x = new ThirdVotes();
        Checks.write(x, text);
        CHECKS.due("perform() of " + text, x.perform(), -100 - index);
        CHECKS.due("total(5) behind " + text, x.total(5), 0);
        CHECKS.due("total(18) behind " + text, x.total(18), 0);
        CHECKS.due("total(19) behind " + text, x.total(19), text.length());
    }

    private static void faults() {
        String[] endTooEarly = {"", "a", "0", "2", ".", "_", "aa,", "2(", "2(aa", "2(.1", "2(.12", "2(aa,", "2(3(aa)",
            "2(2", "9(9(.99"};
        for (String text : endTooEarly) {
            fault(text, text.length());
        }
        // The last character of each of these is the first one that is not allowed.
        String[] wrongAtTheEnd = {"g", "A", ",", "(", ")", " ", "-", "/", ":", "`", "ag", "aG", "a,", "a(", "0(", "1(",
            "b(", "2)", "2,", ".0", ".a", "..", ".,", "._", "_0", "__", ".1a", ".1.", ".123", ".10(", "_100", "_1_",
            "aa)", ".1)", ".12)", "aa(", "aaa", "aa.", "aa1", "aa,,", "aa,)", "2()", "2(,", "2(aa))", "2(aa),,",
            "2(aa)a", "2(aa)(", "22(", "2(aa,)", "3(.1.", "2(.1))", "2(.11))", "4((", "aa,g", "2/", "2:", ".:", "./"};
        for (String text : wrongAtTheEnd) {
            fault(text, text.length() - 1);
        }
        fault("gg,,((", 0);
        fault("ab;cd,", 2);
        fault("2(ab,1(cd))", 6);
        fault("2(ab" + (char) 0 + "cd)", 4);
        fault("a" + (char) 0x661, 1);
        fault("2(2(2(2(2(2(2(2(2(2(2(2(2(2(2(2(2(2(2(2(2(2(2(2(2(2(2(2(2(2(", 60);
    }

    private static void performFull() {
        ThirdVotes x = new ThirdVotes();
        Checks.pauseUpTo(x, 1400);
        Checks.write(x, "4(_25)");
        CHECKS.due("perform()", x.perform(), 1500);
        x.undo();
        Checks.write(x, "4(_25),.1");
        CHECKS.due("perform()", x.perform(), -3);
        CHECKS.due("total(5)", x.total(5), 1400);
        CHECKS.due("total(18)", x.total(18), 3);
        CHECKS.due("total(16)", x.total(16), 0);
        Checks.write(x, "aa");
        CHECKS.due("perform()", x.perform(), -3);
        CHECKS.due("total(6)", x.total(6), 0);
        ThirdVotes y = new ThirdVotes();
        Checks.write(y, "9(9(9(9(9(9(9(9(9(9(9(9(9(9(9(9(9(9(9(.1)))))))))))))))))))");
        CHECKS.due("total(19)", y.total(19), 59);
        CHECKS.due("perform()", y.perform(), -3);
        CHECKS.due("total(5)", y.total(5), 0);
        Checks.write(y, "5(5(3(4(5(.1)))))");
        CHECKS.due("perform()", y.perform(), 1500);
        CHECKS.due("perform()", y.perform(), -3);
    }

    private static void faultAheadOfFull() {
        ThirdVotes x = new ThirdVotes();
        Checks.pauseUpTo(x, 1500);
        Checks.write(x, "aa,");
        CHECKS.due("perform()", x.perform(), -103);
        Checks.write(x, "9(9(9(9(aa))))x");
        CHECKS.due("perform()", x.perform(), -114);
        x.clearText();
        CHECKS.due("perform()", x.perform(), -100);
    }
}
