/** What an object answers, told as one text, so that states can be compared; it takes up to 300 calls. */
final class Story {

    private Story() {
    }

    /** What belongs to the state: the settings, the wire and the words. */
    static String ofState(ThirdVotes x) {
        StringBuilder story = new StringBuilder("settings");
        for (int setting = 0; setting < 5; setting++) {
            story.append(' ').append(x.total(setting));
        }
        story.append(", end ").append(x.total(5)).append(", low ticks ").append(x.total(16));
        story.append(", words");
        for (int rank = 0; rank < 40 && x.sent(rank) >= 0; rank++) {
            story.append(' ').append(x.sent(rank));
        }
        story.append(", falls");
        for (int rank = 0; rank < 40 && x.fall(rank) >= 0; rank++) {
            story.append(' ').append(x.fall(rank));
        }
        return story.toString();
    }

    /** Everything, told by going back through the history to its beginning, and then to the snapshot. */
    static String ofAll(ThirdVotes x) {
        StringBuilder story = new StringBuilder(ofState(x));
        story.append("; states ").append(x.total(18)).append(", text ").append(x.total(19));
        story.append("; perform ").append(x.perform()).append(", undo ").append(x.undo());
        for (int state = 0; state < 4; state++) {
            story.append(' ').append(x.total(5)).append(' ').append(x.undo());
        }
        return story.append("; restore ").append(x.restore()).append(": ").append(ofState(x)).toString();
    }
}
