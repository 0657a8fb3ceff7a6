import java.util.ArrayDeque;
import java.util.ArrayList;
import java.util.Deque;
import java.util.List;

/**
 * The document told once more, as slowly and plainly as it reads, to compare the class with it.
 * Where it can, it goes another way than the class: levels in a list, texts by descent and exceptions.
 */
final class Model {

    private static final int UNKNOWN = -1;
    private static final int OUT_OF_RANGE = -2;
    private static final int FULL = -3;
    private static final int NONE = -5;
    private static final int[][] RANGES = {{64, 640}, {4, 40}, {0, 2}, {1, 2}, {0, 1}};

    /** What the history holds. */
    private record State(List<Integer> levels, List<Integer> words, List<Integer> settings) {
        State copy() {
            return new State(new ArrayList<>(levels), new ArrayList<>(words), new ArrayList<>(settings));
        }

        int at(int tick) {
            return tick < 0 || tick >= levels.size() ? 1 : levels.get(tick);
        }
    }

    private record Received(int kind, int word, int begin, int doubtful, int lastLook) {
        int told(int what) {
            return new int[] {kind, word, begin, doubtful, lastLook}[what];
        }
    }

    private record Reception(List<Received> all, int falseStarts) {
        int kinds(int kind) {
            return (int) all.stream().filter(one -> one.kind == kind).count();
        }

        int doubtful() {
            return all.stream().mapToInt(Received::doubtful).sum();
        }

        int well(List<Integer> words) {
            return kinds(0) == all.size() && all.stream().map(Received::word).toList().equals(words) ? 1 : 0;
        }
    }

    private static final class Full extends Exception {
        private static final long serialVersionUID = 1L;
    }

    private static final class Fault extends Exception {
        private static final long serialVersionUID = 1L;
        private final int index;

        Fault(int index) {
            this.index = index;
        }
    }

    private State state =
            new State(new ArrayList<>(), new ArrayList<>(), new ArrayList<>(List.of(256, 16, 0, 1, 0)));
    private State snapshot;
    private final Deque<State> history = new ArrayDeque<>();
    private String text = "";

    private void become(State next) {
        history.addLast(state);
        if (history.size() > 4) {
            history.removeFirst();
        }
        state = next;
    }

    private static void add(State to, int level, int ticks) throws Full {
        if (to.levels.size() + ticks > 1500) {
            throw new Full();
        }
        for (int tick = 0; tick < ticks; tick++) {
            to.levels.add(level);
        }
    }

    private static void addWord(State to, int word) throws Full {
        List<Integer> bits = new ArrayList<>(List.of(0));
        int ones = 0;
        for (int bit = 0; bit < 8; bit++) {
            int value = (word / (1 << bit)) % 2;
            bits.add(value);
            ones += value;
        }
        if (to.settings.get(2) == 1) {
            bits.add(ones % 2);
        } else if (to.settings.get(2) == 2) {
            bits.add((ones + 1) % 2);
        }
        for (int stop = 0; stop < to.settings.get(3); stop++) {
            bits.add(1);
        }
        int length = to.settings.get(0);
        int begin = to.levels.size();
        for (int bit = 0; bit < bits.size(); bit++) {
            int behind = begin + (int) Math.floor((bit + 1) * (length / 16.0));
            add(to, bits.get(bit), behind - to.levels.size());
        }
        to.words.add(word);
    }

    int send(int word) {
        if (word < 0 || word > 255) {
            return OUT_OF_RANGE;
        }
        try {
            State next = state.copy();
            addWord(next, word);
            become(next);
            return end();
        } catch (Full full) {
            return FULL;
        }
    }

    int stretch(int level, int ticks) {
        if (ticks < 1 || ticks > 500) {
            return OUT_OF_RANGE;
        }
        try {
            State next = state.copy();
            add(next, level, ticks);
            become(next);
            return end();
        } catch (Full full) {
            return FULL;
        }
    }

    private int end() {
        return state.levels.size();
    }

    private static State disturbed(State from, int at, int ticks) {
        State next = from.copy();
        for (int tick = at; tick < at + ticks; tick++) {
            next.levels.set(tick, 1 - next.levels.get(tick));
        }
        return next;
    }

    int disturb(int at, int ticks) {
        if (at < 0 || ticks < 1 || ticks > 40 || (long) at + ticks > end()) {
            return OUT_OF_RANGE;
        }
        become(disturbed(state, at, ticks));
        return state.levels.subList(at, at + ticks).stream().mapToInt(level -> level).sum();
    }

    int clear() {
        int before = end();
        become(new State(new ArrayList<>(), new ArrayList<>(), new ArrayList<>(state.settings)));
        return before;
    }

    int set(int setting, int value) {
        if (setting < 0 || setting > 4) {
            return UNKNOWN;
        }
        if (value < RANGES[setting][0] || value > RANGES[setting][1]) {
            return OUT_OF_RANGE;
        }
        int before = state.settings.get(setting);
        if (before == value) {
            return NONE;
        }
        State next = state.copy();
        next.settings.set(setting, value);
        become(next);
        return before;
    }

    int learn() {
        int length = learned();
        return length == NONE || set(1, length) == NONE ? NONE : length;
    }

    int type(char character) {
        if (text.length() == 60) {
            return FULL;
        }
        text += character;
        return text.length();
    }

    int clearText() {
        int before = text.length();
        text = "";
        return before;
    }

    int perform() {
        try {
            int behind = program(0, 0, null);
            if (behind != text.length()) {
                throw new Fault(behind);
            }
        } catch (Fault fault) {
            return -100 - fault.index;
        } catch (Full full) {
            throw new IllegalStateException(full);
        }
        try {
            State next = state.copy();
            program(0, 0, next);
            become(next);
            return end();
        } catch (Full full) {
            return FULL;
        } catch (Fault fault) {
            throw new IllegalStateException(fault);
        }
    }

    private char charAt(int index) throws Fault {
        if (index >= text.length()) {
            throw new Fault(index);
        }
        return text.charAt(index);
    }

    /** Reads a program, sends it unless there is no state to send it to, and answers the index behind it. */
    private int program(int from, int depth, State to) throws Fault, Full {
        int index = item(from, depth, to);
        while (index < text.length() && text.charAt(index) == ',') {
            index = item(index + 1, depth, to);
        }
        if (depth > 0 && charAt(index) != ')') {
            throw new Fault(index);
        }
        return index;
    }

    private int item(int from, int depth, State to) throws Fault, Full {
        char first = charAt(from);
        if (first == '.' || first == '_') {
            int behind = number(from + 1);
            if (to != null) {
                add(to, first == '.' ? 1 : 0, Integer.parseInt(text.substring(from + 1, behind)));
            }
            return behind;
        }
        if ("0123456789abcdef".indexOf(first) < 0) {
            throw new Fault(from);
        }
        char second = charAt(from + 1);
        if (second == '(' && "23456789".indexOf(first) >= 0) {
            int behind = program(from + 2, depth + 1, to);
            for (int time = 1; to != null && time < first - '0'; time++) {
                program(from + 2, depth + 1, to);
            }
            return behind + 1;
        }
        if ("0123456789abcdef".indexOf(second) < 0) {
            throw new Fault(from + 1);
        }
        if (to != null) {
            addWord(to, Integer.parseInt(text.substring(from, from + 2), 16));
        }
        return from + 2;
    }

    private int number(int from) throws Fault {
        if ("123456789".indexOf(charAt(from)) < 0) {
            throw new Fault(from);
        }
        boolean isLong = from + 1 < text.length() && "0123456789".indexOf(text.charAt(from + 1)) >= 0;
        return isLong ? from + 2 : from + 1;
    }

    int undo() {
        if (history.isEmpty()) {
            return NONE;
        }
        state = history.removeLast();
        return history.size();
    }

    int keep() {
        snapshot = state.copy();
        return end();
    }

    int restore() {
        if (snapshot == null) {
            return NONE;
        }
        become(snapshot.copy());
        return end();
    }

    int level(int tick) {
        return tick < 0 ? OUT_OF_RANGE : state.at(tick);
    }

    private List<Integer> falls() {
        List<Integer> falls = new ArrayList<>();
        for (int tick = 0; tick < end(); tick++) {
            if (state.at(tick) == 0 && state.at(tick - 1) == 1) {
                falls.add(tick);
            }
        }
        return falls;
    }

    private int learned() {
        List<Integer> falls = falls();
        if (falls.size() < 5) {
            return NONE;
        }
        int length = (falls.get(4) - falls.get(0) + 4) / 8;
        return length >= 4 && length <= 40 ? length : NONE;
    }

    int fall(int rank) {
        return ofRank(falls(), rank);
    }

    int sent(int rank) {
        return ofRank(state.words, rank);
    }

    private static int ofRank(List<Integer> all, int rank) {
        if (rank < 0) {
            return OUT_OF_RANGE;
        }
        return rank < all.size() ? all.get(rank) : NONE;
    }

    private static Reception receive(State of, int length) {
        List<Received> all = new ArrayList<>();
        int falseStarts = 0;
        int tick = 0;
        while (tick < of.levels.size()) {
            if (of.at(tick) != 0 || of.at(tick - 1) != 1) {
                tick++;
                continue;
            }
            int[] bits = new int[of.settings.get(2) == 0 ? 10 : 11];
            int doubtful = 0;
            int look = tick;
            for (int bit = 0; bit < bits.length; bit++) {
                int[] looks = {tick + bit * length + length / 3, tick + bit * length + length / 2,
                    tick + bit * length + 2 * length / 3};
                int highs = of.at(looks[0]) + of.at(looks[1]) + of.at(looks[2]);
                bits[bit] = of.settings.get(4) == 1 ? of.at(looks[1]) : highs / 2;
                doubtful += highs % 3 == 0 ? 0 : 1;
                look = looks[2];
                if (bit == 0 && bits[0] == 1) {
                    break;
                }
            }
            if (bits[0] == 1) {
                falseStarts++;
                tick = look + 1;
                continue;
            }
            int word = 0;
            int ones = 0;
            for (int bit = 8; bit >= 1; bit--) {
                word = 2 * word + bits[bit];
                ones += bits[bit];
            }
            boolean isParityRight = switch (of.settings.get(2)) {
                case 0 -> true;
                case 1 -> bits[9] == ones % 2;
                default -> bits[9] != ones % 2;
            };
            int stop = bits[bits.length - 1];
            boolean isAllLow = ones == 0 && bits[9] == 0 && stop == 0;
            int kind = isAllLow ? 3 : stop == 0 ? 2 : isParityRight ? 0 : 1;
            all.add(new Received(kind, word, tick, doubtful, look));
            tick = look + 1;
            while (kind == 3 && of.at(tick) == 0) {
                tick++;
            }
        }
        return new Reception(all, falseStarts);
    }

    private Reception reception() {
        return receive(state, state.settings.get(1));
    }

    int received(int rank, int what) {
        if (rank < 0 || what < 0 || what > 4) {
            return OUT_OF_RANGE;
        }
        List<Received> all = reception().all;
        return rank < all.size() ? all.get(rank).told(what) : NONE;
    }

    int total(int what) {
        switch (what) {
            case 0: case 1: case 2: case 3: case 4: return state.settings.get(what);
            case 5: return end();
            case 6: return state.words.size();
            case 7: return reception().all.size();
            case 8: case 9: case 10: case 11: return reception().kinds(what - 8);
            case 12: return reception().falseStarts;
            case 13: return reception().doubtful();
            case 14: return reception().well(state.words);
            case 15: return falls().size();
            case 16: return (int) state.levels.stream().filter(level -> level == 0).count();
            case 17: return learned();
            case 18: return history.size();
            case 19: return text.length();
            default: return OUT_OF_RANGE;
        }
    }

    int ifLength(int length, int what) {
        if (length < 4 || length > 40) {
            return OUT_OF_RANGE;
        }
        Reception reception = receive(state, length);
        switch (what) {
            case 0: return reception.all.size();
            case 1: return reception.kinds(0);
            case 2: return reception.doubtful();
            case 3: return reception.well(state.words);
            default: return OUT_OF_RANGE;
        }
    }

    int goodLength(boolean isGreatest) {
        for (int step = 0; step <= 36; step++) {
            int length = isGreatest ? 40 - step : 4 + step;
            if (ifLength(length, 3) == 1) {
                return length;
            }
        }
        return NONE;
    }

    int harm(int ticks) {
        if (ticks < 1 || ticks > 40) {
            return OUT_OF_RANGE;
        }
        for (int at = 0; at + ticks <= end(); at++) {
            if (receive(disturbed(state, at, ticks), state.settings.get(1)).well(state.words) == 0) {
                return at;
            }
        }
        return NONE;
    }

    int ifSent(int word) {
        if (word < 0 || word > 255) {
            return OUT_OF_RANGE;
        }
        try {
            State next = state.copy();
            addWord(next, word);
            return (int) receive(next, next.settings.get(1)).all.stream()
                    .filter(one -> one.kind == 0 && one.word == word).count();
        } catch (Full full) {
            return FULL;
        }
    }
}
