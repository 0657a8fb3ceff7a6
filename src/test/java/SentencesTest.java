import java.io.IOException;

/** Each sentence of the document that names a case, and a test for it of its own. */
public final class SentencesTest {

    public static void main(String[] args) throws IOException {
        Checks checks = new Checks("SentencesTest");
        Sentences document = new Sentences(checks);
        beginning(document, checks);
        new WireSentences(document, checks).all();
        new ReceivingSentences(document, checks).all();
        new TextSentences(document, checks).all();
        new HistorySentences(document, checks).all();
        new ChangePromises(document, checks).all();
        new LookPromises(document, checks).all();
        end(document);
        document.close();
        checks.close();
    }

    private static void beginning(Sentences document, Checks checks) {
        document.in("What it is");
        document.namesNothingToTest("Words on one wire, told by votes at the thirds of each bit: a sender whose bits "
                + "have a length in parts of ticks, a receiver whose bits have another length in whole ticks, starts "
                + "by falling wires and false starts, three votes for each bit, parities, stops that are missing, "
                + "breaks, disturbances of the wire, what is received as a word, with a wrong parity, without a stop, "
                + "or as a break, doubtful votes, the length learned from a first word, the lengths with which all is "
                + "received well, the first place at which a disturbance does harm, words and repeats that are read "
                + "from a text with the places of faults, counts, undo and a snapshot.");
        document.says("An object is used for at most 512 calls after it has been made; what later calls answer is "
                + "free.");
        ThirdVotes x = new ThirdVotes();
        for (int round = 0; round < 127; round++) {
            x.pause(1);
            x.undo();
            x.type('a');
            x.level(0);
        }
        checks.due("call 509, send(3)", x.send(3), 160);
        checks.due("call 510, total(19)", x.total(19), 60);
        checks.due("call 511, undo()", x.undo(), 0);
        checks.due("call 512, send(0)", x.send(0), 160);
        neverThrows(x);
        // The face is tested by NewObjectTest.
        document.leaveOut("The public face");
    }

    /** No call may ever throw or fail to end, also behind the 512th one: here that ends the test. */
    private static void neverThrows(ThirdVotes x) {
        int[] arguments = {0, -1, 1, 40, 255, 1500, Integer.MAX_VALUE, Integer.MIN_VALUE};
        for (int first : arguments) {
            for (int second : arguments) {
                x.disturb(first, second);
                x.set(first, second);
                x.received(first, second);
                x.ifLength(first, second);
            }
            x.send(first);
            x.pause(first);
            x.sendBreak(first);
            x.type((char) first);
            x.level(first);
            x.fall(first);
            x.sent(first);
            x.total(first);
            x.harm(first);
            x.ifSent(first);
            x.goodLength(first < 0);
            x.learn();
            x.perform();
            x.undo();
            x.keep();
            x.restore();
            x.clearText();
            x.clear();
        }
    }

    private static void end(Sentences document) {
        document.in("Not promised");
        document.namesNothingToTest(
                "How the state is held inside the object is free, as are the speed of each call, the text of toString "
                + "and the behaviour of equals and hashCode.",
                "Use of one object from several threads at once is not promised to be safe.",
                "Nothing is promised beyond the answers and state changes described above, and nothing about an "
                + "object after its 512th call.");
    }
}
