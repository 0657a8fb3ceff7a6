import java.util.Arrays;

/**
 * Words on one wire, told by votes at the thirds of each bit.
 *
 * <p>What each method promises is told in the document, ../shared/DOC.md; its terms are used here
 * as it uses them.
 */
public final class ThirdVotes {

    /** There is no such setting. */
    public static final int UNKNOWN = -1;
    /** Another argument is out of its range. */
    public static final int OUT_OF_RANGE = -2;
    /** There is no more room. */
    public static final int FULL = -3;
    /** There is no such thing; this is not an error. */
    public static final int NONE = -5;

    private static final int GREATEST_END = 1500;
    private static final int GREATEST_WORD = 255;
    private static final int GREATEST_STRETCH = 500;
    private static final int GREATEST_DISTURBANCE = 40;
    private static final int FAULT_AT_0 = -100;

    private static final int SENDER_LENGTH = 0;
    private static final int RECEIVER_LENGTH = 1;
    private static final int PARITY = 2;
    private static final int STOPS = 3;
    private static final int VOTES = 4;
    private static final int SETTINGS = 5;
    private static final int[] FIRST_VALUES = {256, 16, 0, 1, 0};
    private static final int[] LEAST_VALUES = {64, 4, 0, 1, 0};
    private static final int[] GREATEST_VALUES = {640, 40, 2, 2, 1};
    private static final int LEAST_LENGTH = 4;
    private static final int GREATEST_LENGTH = 40;

    private static final int WORD_BITS = 8;
    private static final int PARITY_BIT = WORD_BITS + 1;

    private static final int LOW = 0;
    private static final int HIGH = 1;

    private final State state;
    /** What would be is tried here, so that the state itself need not be mended afterwards. */
    private final State trial;
    private final Receiver receiver;
    private final Text text;
    private final History history;

    public ThirdVotes() {
        state = new State();
        trial = new State();
        receiver = new Receiver();
        text = new Text();
        history = new History();
    }

    // ---- the wire

    public int send(int word) {
        if (!isWord(word)) {
            return OUT_OF_RANGE;
        }
        if (!state.hasRoom(state.ticksOfWord())) {
            return FULL;
        }
        history.remember(state);
        state.addWord(word);
        return state.end();
    }

    public int pause(int ticks) {
        return sendStretch(HIGH, ticks);
    }

    public int sendBreak(int ticks) {
        return sendStretch(LOW, ticks);
    }

    public int disturb(int at, int ticks) {
        if (!isDisturbance(ticks) || at < 0 || at > state.end() - ticks) {
            return OUT_OF_RANGE;
        }
        history.remember(state);
        return state.flip(at, ticks);
    }

    public int clear() {
        int endBefore = state.end();
        history.remember(state);
        state.clearWire();
        return endBefore;
    }

    public int set(int setting, int value) {
        if (setting < 0 || setting >= SETTINGS) {
            return UNKNOWN;
        }
        if (value < LEAST_VALUES[setting] || value > GREATEST_VALUES[setting]) {
            return OUT_OF_RANGE;
        }
        int valueBefore = state.setting(setting);
        if (value == valueBefore) {
            return NONE;
        }
        history.remember(state);
        state.change(setting, value);
        return valueBefore;
    }

    public int learn() {
        int length = state.learnedLength();
        if (length == NONE || length == state.setting(RECEIVER_LENGTH)) {
            return NONE;
        }
        history.remember(state);
        state.change(RECEIVER_LENGTH, length);
        return length;
    }

    // ---- texts

    public int type(char character) {
        return text.append(character) ? text.length() : FULL;
    }

    public int clearText() {
        int lengthBefore = text.length();
        text.empty();
        return lengthBefore;
    }

    public int perform() {
        int fault = text.fault();
        if (fault != NONE) {
            return FAULT_AT_0 - fault;
        }
        trial.copyFrom(state);
        if (!text.sendTo(trial)) {
            return FULL;
        }
        history.remember(state);
        state.copyFrom(trial);
        return state.end();
    }

    // ---- history

    public int undo() {
        return history.takeBack(state) ? history.size() : NONE;
    }

    public int keep() {
        history.takeSnapshot(state);
        return state.end();
    }

    public int restore() {
        if (!history.hasSnapshot()) {
            return NONE;
        }
        history.remember(state);
        history.copySnapshotTo(state);
        return state.end();
    }

    // ---- what there is

    public int level(int tick) {
        return tick < 0 ? OUT_OF_RANGE : state.levelAt(tick);
    }

    public int fall(int rank) {
        return rank < 0 ? OUT_OF_RANGE : state.fallOfRank(rank);
    }

    public int sent(int rank) {
        return rank < 0 ? OUT_OF_RANGE : state.wordOfRank(rank);
    }

    public int received(int rank, int what) {
        if (rank < 0 || what < 0 || what >= Receiver.NOTES) {
            return OUT_OF_RANGE;
        }
        receiver.receive(state, state.setting(RECEIVER_LENGTH));
        return receiver.note(rank, what);
    }

    public int total(int what) {
        if (what < 0 || what > 19) {
            return OUT_OF_RANGE;
        }
        if (what < SETTINGS) {
            return state.setting(what);
        }
        // The numbers are those of the document.
        switch (what) {
            case 5: return state.end();
            case 6: return state.wordCount();
            case 15: return state.countFalls();
            case 16: return state.countLowTicks();
            case 17: return state.learnedLength();
            case 18: return history.size();
            case 19: return text.length();
            default: return totalReceived(what);
        }
    }

    // ---- what would be; nothing changes

    public int ifLength(int length, int what) {
        if (length < LEAST_LENGTH || length > GREATEST_LENGTH || what < 0 || what > 3) {
            return OUT_OF_RANGE;
        }
        receiver.receive(state, length);
        switch (what) {
            case 0: return receiver.count();
            case 1: return receiver.countKind(Receiver.GOOD);
            case 2: return receiver.countDoubtful();
            default: return receiver.isAllWell(state) ? 1 : 0;
        }
    }

    public int goodLength(boolean isGreatest) {
        int found = NONE;
        for (int length = LEAST_LENGTH; length <= GREATEST_LENGTH; length++) {
            if ((isGreatest || found == NONE) && isWellWith(state, length)) {
                found = length;
            }
        }
        return found;
    }

    public int harm(int ticks) {
        if (!isDisturbance(ticks)) {
            return OUT_OF_RANGE;
        }
        trial.copyFrom(state);
        for (int at = 0; at <= state.end() - ticks; at++) {
            trial.flip(at, ticks);
            boolean isWell = isWellWith(trial, trial.setting(RECEIVER_LENGTH));
            trial.flip(at, ticks);
            if (!isWell) {
                return at;
            }
        }
        return NONE;
    }

    public int ifSent(int word) {
        if (!isWord(word)) {
            return OUT_OF_RANGE;
        }
        trial.copyFrom(state);
        if (!trial.addWord(word)) {
            return FULL;
        }
        receiver.receive(trial, trial.setting(RECEIVER_LENGTH));
        return receiver.countGoodWord(word);
    }

    // ---- what several of them use

    private static boolean isWord(int word) {
        return word >= 0 && word <= GREATEST_WORD;
    }

    private static boolean isDisturbance(int ticks) {
        return ticks >= 1 && ticks <= GREATEST_DISTURBANCE;
    }

    /** The parity that belongs to a word with the setting 2 as 1 or 2. */
    private static int parityOf(int word, int paritySetting) {
        int odd = Integer.bitCount(word) & 1;
        return paritySetting == 1 ? odd : 1 - odd;
    }

    private int sendStretch(int level, int ticks) {
        if (ticks < 1 || ticks > GREATEST_STRETCH) {
            return OUT_OF_RANGE;
        }
        if (!state.hasRoom(ticks)) {
            return FULL;
        }
        history.remember(state);
        state.addStretch(level, ticks);
        return state.end();
    }

    private boolean isWellWith(State tried, int length) {
        receiver.receive(tried, length);
        return receiver.isAllWell(tried);
    }

    private int totalReceived(int what) {
        receiver.receive(state, state.setting(RECEIVER_LENGTH));
        switch (what) {
            case 7: return receiver.count();
            case 8: return receiver.countKind(Receiver.GOOD);
            case 9: return receiver.countKind(Receiver.ODD);
            case 10: return receiver.countKind(Receiver.UNSTOPPED);
            case 11: return receiver.countKind(Receiver.BREAK);
            case 12: return receiver.falseStarts();
            case 13: return receiver.countDoubtful();
            default: return receiver.isAllWell(state) ? 1 : 0;
        }
    }

    /** All that undo and restore bring back: the wire, the words sent on it, and the settings. */
    private static final class State {

        /** The sender's length is told in sixteenths of a tick. */
        private static final int PARTS = 16;
        /** Levels are held as bits, so that the seven states of an object stay small. */
        private static final int TICKS_PER_ROW = 64;
        private static final int ROWS = GREATEST_END / TICKS_PER_ROW + 1;
        private static final long ALL_HIGH = -1L;
        /** No word takes less than 10 bits of 4 ticks. */
        private static final int MOST_WORDS = GREATEST_END / 40;
        private static final int RANK_OF_FIFTH_FALL = 4;
        private static final int BITS_TO_FIFTH_FALL = 8;

        /** High from the end on, so that falls can be found by whole rows. */
        private final long[] levels;
        private final int[] words;
        private final int[] settings;
        private int end;
        private int wordCount;

        State() {
            levels = new long[ROWS];
            words = new int[MOST_WORDS];
            settings = new int[SETTINGS];
            Arrays.fill(levels, ALL_HIGH);
            System.arraycopy(FIRST_VALUES, 0, settings, 0, SETTINGS);
        }

        void copyFrom(State other) {
            System.arraycopy(other.levels, 0, levels, 0, ROWS);
            System.arraycopy(other.words, 0, words, 0, MOST_WORDS);
            System.arraycopy(other.settings, 0, settings, 0, SETTINGS);
            end = other.end;
            wordCount = other.wordCount;
        }

        int end() {
            return end;
        }

        int wordCount() {
            return wordCount;
        }

        int setting(int setting) {
            return setting < 0 || setting >= SETTINGS ? UNKNOWN : settings[setting];
        }

        int wordOfRank(int rank) {
            return rank < 0 || rank >= wordCount ? NONE : words[rank];
        }

        void change(int setting, int value) {
            if (setting >= 0 && setting < SETTINGS) {
                settings[setting] = value;
            }
        }

        void clearWire() {
            Arrays.fill(levels, ALL_HIGH);
            end = 0;
            wordCount = 0;
        }

        boolean hasRoom(int ticks) {
            return ticks <= GREATEST_END - end;
        }

        int ticksOfWord() {
            return bitsOfWord() * settings[SENDER_LENGTH] / PARTS;
        }

        /** Answers whether there was room. */
        boolean addWord(int word) {
            int ticks = ticksOfWord();
            if (!hasRoom(ticks) || wordCount >= MOST_WORDS) {
                return false;
            }
            int bits = bitsOf(word);
            int length = settings[SENDER_LENGTH];
            int bitsInAll = bitsOfWord();
            for (int bit = 0; bit < bitsInAll; bit++) {
                if ((bits >> bit & 1) == LOW) {
                    putLow(end + bit * length / PARTS, end + (bit + 1) * length / PARTS);
                }
            }
            words[wordCount] = word;
            wordCount++;
            end += ticks;
            return true;
        }

        /** Answers whether there was room. */
        boolean addStretch(int level, int ticks) {
            if (!hasRoom(ticks)) {
                return false;
            }
            if (level == LOW) {
                putLow(end, end + ticks);
            }
            end += ticks;
            return true;
        }

        /** Gives some ticks the other level, and answers how many of them are high then. */
        int flip(int at, int ticks) {
            int highTicks = 0;
            for (int tick = Math.max(at, 0); tick < at + ticks && tick < end; tick++) {
                levels[tick / TICKS_PER_ROW] ^= 1L << tick % TICKS_PER_ROW;
                highTicks += levelAt(tick);
            }
            return highTicks;
        }

        int levelAt(int tick) {
            if (tick < 0 || tick >= end) {
                return HIGH;
            }
            return (int) (levels[tick / TICKS_PER_ROW] >>> tick % TICKS_PER_ROW & 1L);
        }

        /** The first fall from a tick on, or the end. */
        int nextFall(int from) {
            int first = Math.max(from, 0);
            int firstRow = first / TICKS_PER_ROW;
            for (int row = firstRow; row < ROWS; row++) {
                long falls = fallsIn(row);
                if (row == firstRow) {
                    falls &= -1L << first % TICKS_PER_ROW;
                }
                if (falls != 0) {
                    long lowestFall = falls & -falls;
                    return row * TICKS_PER_ROW + Long.bitCount(lowestFall - 1);
                }
            }
            return end;
        }

        int fallOfRank(int rank) {
            int fall = nextFall(0);
            for (int ahead = 0; ahead < rank && fall < end; ahead++) {
                fall = nextFall(fall + 1);
            }
            return fall < end ? fall : NONE;
        }

        int countFalls() {
            int falls = 0;
            for (int row = 0; row < ROWS; row++) {
                falls += Long.bitCount(fallsIn(row));
            }
            return falls;
        }

        int countLowTicks() {
            int lowTicks = 0;
            for (int row = 0; row < ROWS; row++) {
                lowTicks += Long.bitCount(~levels[row]);
            }
            return lowTicks;
        }

        /** The length that is learned, or NONE. */
        int learnedLength() {
            int fifthFall = fallOfRank(RANK_OF_FIFTH_FALL);
            if (fifthFall == NONE) {
                return NONE;
            }
            // A half of the divisor ahead of the division makes it the nearest length.
            int ticks = fifthFall - fallOfRank(0) + BITS_TO_FIFTH_FALL / 2;
            int length = ticks / BITS_TO_FIFTH_FALL;
            return length < LEAST_LENGTH || length > GREATEST_LENGTH ? NONE : length;
        }

        private int bitsOfWord() {
            int parityBits = settings[PARITY] == 0 ? 0 : 1;
            return 1 + WORD_BITS + parityBits + settings[STOPS];
        }

        /** The bits as they are sent, the start as the lowest one. */
        private int bitsOf(int word) {
            int bits = word << 1;
            int stopBit = PARITY_BIT;
            if (settings[PARITY] != 0) {
                bits |= parityOf(word, settings[PARITY]) << PARITY_BIT;
                stopBit++;
            }
            // Two stops at any rate: bitsOfWord tells how many of them are sent.
            return bits | 3 << stopBit;
        }

        private void putLow(int from, int behind) {
            for (int tick = Math.max(from, 0); tick < behind && tick < GREATEST_END; tick++) {
                levels[tick / TICKS_PER_ROW] &= ~(1L << tick % TICKS_PER_ROW);
            }
        }

        /** The falls in a row, as bits that are 1. */
        private long fallsIn(int row) {
            if (row < 0 || row >= ROWS) {
                return 0;
            }
            long levelAhead = row == 0 ? HIGH : levels[row - 1] >>> TICKS_PER_ROW - 1;
            return (levels[row] << 1 | levelAhead) & ~levels[row];
        }
    }

    /** What is received of a wire; its rows are used again for each wire it looks at. */
    private static final class Receiver {

        static final int GOOD = 0;
        static final int ODD = 1;
        static final int UNSTOPPED = 2;
        static final int BREAK = 3;

        /** What is noted of each thing received, in the order of the document. */
        static final int NOTES = 5;
        private static final int KIND = 0;
        private static final int WORD = 1;
        private static final int BEGIN = 2;
        private static final int DOUBTFUL = 3;
        private static final int LAST_LOOK = 4;

        /** Two begins are 39 ticks apart or more: nine bits of 4 ticks, and three to the last look. */
        private static final int MOST_RECEIVED = GREATEST_END / 39 + 1;

        private final int[][] notes;
        private int count;
        private int falseStarts;
        private int doubtfulBits;

        Receiver() {
            notes = new int[NOTES][MOST_RECEIVED];
        }

        void receive(State state, int length) {
            count = 0;
            falseStarts = 0;
            int begin = state.nextFall(0);
            for (int begins = 0; begins < GREATEST_END && begin < state.end(); begins++) {
                begin = state.nextFall(tellFrom(state, begin, length));
            }
        }

        int count() {
            return count;
        }

        int falseStarts() {
            return falseStarts;
        }

        int note(int rank, int what) {
            if (rank < 0 || rank >= count || what < 0 || what >= NOTES) {
                return NONE;
            }
            return notes[what][rank];
        }

        int countKind(int kind) {
            int found = 0;
            for (int rank = 0; rank < count; rank++) {
                if (note(rank, KIND) == kind) {
                    found++;
                }
            }
            return found;
        }

        int countGoodWord(int word) {
            int found = 0;
            for (int rank = 0; rank < count; rank++) {
                if (isGoodWord(rank, word)) {
                    found++;
                }
            }
            return found;
        }

        int countDoubtful() {
            int found = 0;
            for (int rank = 0; rank < count; rank++) {
                found += note(rank, DOUBTFUL);
            }
            return found;
        }

        boolean isAllWell(State state) {
            if (count != state.wordCount()) {
                return false;
            }
            for (int rank = 0; rank < count; rank++) {
                if (!isGoodWord(rank, state.wordOfRank(rank))) {
                    return false;
                }
            }
            return true;
        }

        private boolean isGoodWord(int rank, int word) {
            return note(rank, KIND) == GOOD && note(rank, WORD) == word;
        }

        /** Tells what begins at a fall, and answers from which tick on the next fall counts. */
        private int tellFrom(State state, int begin, int length) {
            doubtfulBits = 0;
            if (tellBit(state, begin, length) == HIGH) {
                falseStarts++;
                return thirdLook(begin, length) + 1;
            }
            int stopBit = state.setting(PARITY) == 0 ? PARITY_BIT : PARITY_BIT + 1;
            int bits = 0;
            for (int bit = 1; bit <= stopBit; bit++) {
                bits |= tellBit(state, begin + bit * length, length) << bit;
            }
            int kind = kindOf(bits, stopBit, state.setting(PARITY));
            int lastLook = thirdLook(begin + stopBit * length, length);
            add(kind, wordIn(bits), begin, lastLook);
            // Waiting for the level 1 first leaves out a fall right behind the last look, and no other:
            // each later one has that level ahead of it.
            return kind == BREAK ? lastLook + 2 : lastLook + 1;
        }

        private int tellBit(State state, int from, int length) {
            int second = state.levelAt(from + length / 2);
            int highLooks = state.levelAt(from + length / 3) + second
                    + state.levelAt(thirdLook(from, length));
            if (highLooks == 1 || highLooks == 2) {
                doubtfulBits++;
            }
            if (state.setting(VOTES) == 1) {
                return second;
            }
            return highLooks >= 2 ? HIGH : LOW;
        }

        private static int thirdLook(int from, int length) {
            return from + 2 * length / 3;
        }

        private static int wordIn(int bits) {
            return bits >> 1 & GREATEST_WORD;
        }

        private static int kindOf(int bits, int stopBit, int parity) {
            if (bits == 0) {
                return BREAK;
            }
            if ((bits >> stopBit & 1) == 0) {
                return UNSTOPPED;
            }
            if (parity != 0 && (bits >> PARITY_BIT & 1) != parityOf(wordIn(bits), parity)) {
                return ODD;
            }
            return GOOD;
        }

        private void add(int kind, int word, int begin, int lastLook) {
            if (count < MOST_RECEIVED) {
                notes[KIND][count] = kind;
                notes[WORD][count] = word;
                notes[BEGIN][count] = begin;
                notes[DOUBTFUL][count] = doubtfulBits;
                notes[LAST_LOOK][count] = lastLook;
                count++;
            }
        }
    }

    /** The text, and the program that it tells. */
    private static final class Text {

        private static final int MOST_CHARACTERS = 60;
        /** A repeat takes two characters ahead of what is in it. */
        private static final int MOST_DEPTH = MOST_CHARACTERS / 2;
        /** Far above what fits on the wire: each item takes a tick or more. */
        private static final int MOST_STEPS = 1_000_000;

        // What can stand at a place of the text.
        private static final int ITEM = 0;
        private static final int SECOND_DIGIT = 1;
        private static final int SECOND_DIGIT_OR_REPEAT = 2;
        private static final int NUMBER = 3;
        private static final int NUMBER_GOING_ON = 4;
        private static final int BEHIND_ITEM = 5;
        private static final int NOTHING = 6;

        private final char[] characters;
        private final int[] repeatFrom;
        private final int[] repeatsLeft;
        private int length;
        private int openRepeats;

        Text() {
            characters = new char[MOST_CHARACTERS];
            repeatFrom = new int[MOST_DEPTH];
            repeatsLeft = new int[MOST_DEPTH];
        }

        int length() {
            return length;
        }

        /** Answers whether there was room. */
        boolean append(char character) {
            if (length >= MOST_CHARACTERS) {
                return false;
            }
            characters[length] = character;
            length++;
            return true;
        }

        void empty() {
            length = 0;
        }

        /** The fault of the text, or NONE. */
        int fault() {
            int place = ITEM;
            int depth = 0;
            for (int index = 0; index < length; index++) {
                char character = characterAt(index);
                place = placeBehind(place, character, depth);
                if (place == NOTHING) {
                    return index;
                }
                if (character == '(') {
                    depth++;
                } else if (character == ')') {
                    depth--;
                }
            }
            boolean isItemOver = place == BEHIND_ITEM || place == NUMBER_GOING_ON;
            return isItemOver && depth == 0 ? NONE : length;
        }

        /** Sends the program of a text without a fault, and answers whether there was room. */
        boolean sendTo(State state) {
            openRepeats = 0;
            int index = 0;
            for (int step = 0; step < MOST_STEPS && index >= 0 && index < length; step++) {
                char character = characterAt(index);
                if (character == ',') {
                    index++;
                } else if (character == ')') {
                    index = endRepeat(index);
                } else if (characterAt(index + 1) == '(') {
                    index = beginRepeat(index + 2, digit(character));
                } else {
                    index = sendItem(index, state);
                }
            }
            return index >= length;
        }

        /** The index behind an item that was sent, or NONE without room. */
        private int sendItem(int index, State state) {
            char first = characterAt(index);
            boolean hadRoom = isStretch(first)
                    ? state.addStretch(first == '.' ? HIGH : LOW, numberAt(index + 1))
                    : state.addWord(digit(first) * 16 + digit(characterAt(index + 1)));
            return hadRoom ? index + widthOfItem(index) : NONE;
        }

        /** Answers, as endRepeat does, the index where the sending goes on. */
        private int beginRepeat(int from, int times) {
            if (openRepeats < 0 || openRepeats >= MOST_DEPTH) {
                return NONE;
            }
            repeatFrom[openRepeats] = from;
            repeatsLeft[openRepeats] = times;
            openRepeats++;
            return from;
        }

        private int endRepeat(int index) {
            int ending = openRepeats - 1;
            if (ending < 0 || ending >= MOST_DEPTH) {
                return NONE;
            }
            repeatsLeft[ending]--;
            if (repeatsLeft[ending] > 0) {
                return repeatFrom[ending];
            }
            openRepeats = ending;
            return index + 1;
        }

        private char characterAt(int index) {
            return index < 0 || index >= length ? (char) 0 : characters[index];
        }

        private static int placeBehind(int place, char character, int depth) {
            switch (place) {
                case ITEM:
                    return placeInItem(character);
                case SECOND_DIGIT:
                    return placeBehindDigit(character);
                case SECOND_DIGIT_OR_REPEAT:
                    return character == '(' ? ITEM : placeBehindDigit(character);
                case NUMBER:
                    return isBetween(character, '1', '9') ? NUMBER_GOING_ON : NOTHING;
                case NUMBER_GOING_ON:
                    return isBetween(character, '0', '9') ? BEHIND_ITEM
                            : placeBehindItem(character, depth);
                default:
                    return placeBehindItem(character, depth);
            }
        }

        private static int placeInItem(char character) {
            if (isStretch(character)) {
                return NUMBER;
            }
            if (isBetween(character, '2', '9')) {
                return SECOND_DIGIT_OR_REPEAT;
            }
            return digit(character) == NONE ? NOTHING : SECOND_DIGIT;
        }

        private static int placeBehindDigit(char character) {
            return digit(character) == NONE ? NOTHING : BEHIND_ITEM;
        }

        private static int placeBehindItem(char character, int depth) {
            if (character == ',') {
                return ITEM;
            }
            return character == ')' && depth > 0 ? BEHIND_ITEM : NOTHING;
        }

        private int widthOfItem(int index) {
            boolean isLong = isStretch(characterAt(index)) && digit(characterAt(index + 2)) != NONE;
            return isLong ? 3 : 2;
        }

        private int numberAt(int index) {
            int first = digit(characterAt(index));
            int second = digit(characterAt(index + 1));
            return second == NONE ? first : first * 10 + second;
        }

        private static boolean isStretch(char character) {
            return character == '.' || character == '_';
        }

        private static boolean isBetween(char character, char least, char greatest) {
            return character >= least && character <= greatest;
        }

        /** The value of a digit or letter of a word, or NONE. */
        private static int digit(char character) {
            if (isBetween(character, '0', '9')) {
                return character - '0';
            }
            return isBetween(character, 'a', 'f') ? character - 'a' + 10 : NONE;
        }
    }

    /** The states that can be brought back. */
    private static final class History {

        private static final int MOST_STATES = 4;

        private final State[] states;
        private final State snapshot;
        private int size;
        private boolean hasSnapshot;

        History() {
            states = new State[MOST_STATES];
            for (int rank = 0; rank < MOST_STATES; rank++) {
                states[rank] = new State();
            }
            snapshot = new State();
        }

        int size() {
            return size;
        }

        boolean hasSnapshot() {
            return hasSnapshot;
        }

        void remember(State state) {
            if (size >= MOST_STATES) {
                dropOldest();
            }
            states[size].copyFrom(state);
            size++;
        }

        /** Answers whether there was a state to bring back. */
        boolean takeBack(State state) {
            if (size < 1 || size > MOST_STATES) {
                return false;
            }
            size--;
            state.copyFrom(states[size]);
            return true;
        }

        void takeSnapshot(State state) {
            snapshot.copyFrom(state);
            hasSnapshot = true;
        }

        void copySnapshotTo(State state) {
            state.copyFrom(snapshot);
        }

        private void dropOldest() {
            State oldest = states[0];
            for (int rank = 1; rank < MOST_STATES; rank++) {
                states[rank - 1] = states[rank];
            }
            states[MOST_STATES - 1] = oldest;
            size--;
        }
    }
}
