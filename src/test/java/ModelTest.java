/** Long runs of calls, the same each time, whose answers are compared with those of the model. */
public final class ModelTest {

    private static final int CALLS = 512;
    private static final int[] ODD_ARGUMENTS = {-1, 0, Integer.MIN_VALUE, Integer.MAX_VALUE, 1500, 257, 41};

    private final Checks checks;
    private final int run;
    private final ThirdVotes x = new ThirdVotes();
    private final Model model = new Model();
    private long seed;
    private int calls;

    private ModelTest(Checks checks, int run) {
        this.checks = checks;
        this.run = run;
        this.seed = 77_777L * run + 12_345L;
    }

    public static void main(String[] args) {
        int runs = args.length > 0 ? Integer.parseInt(args[0]) : 250;
        Checks checks = new Checks("ModelTest");
        for (int run = 0; run < runs; run++) {
            new ModelTest(checks, run).compare();
        }
        checks.close();
    }

    private int below(int bound) {
        seed = seed * 6_364_136_223_846_793_005L + 1_442_695_040_888_963_407L;
        return (int) ((seed >>> 33) % bound);
    }

    private int between(int least, int greatest) {
        return least + below(greatest - least + 1);
    }

    private boolean isOneIn(int bound) {
        return below(bound) == 0;
    }

    private int odd(int ordinary) {
        return isOneIn(40) ? ODD_ARGUMENTS[below(ODD_ARGUMENTS.length)] : ordinary;
    }

    private void compare() {
        chooseLengths();
        while (calls < CALLS) {
            if (isOneIn(3)) {
                change();
            } else {
                look();
            }
        }
    }

    /** Lengths that fit, so that much is received well, and near ones, so that much is not. */
    private void chooseLengths() {
        int receiver = isOneIn(2) ? between(4, 9) : between(4, 40);
        set(1, receiver);
        set(0, Math.max(64, Math.min(640, 16 * receiver + between(-12, 12))));
        set(2, below(3));
        set(3, between(1, 2));
        set(4, isOneIn(3) ? 1 : 0);
    }

    private void due(String call, int got, int want) {
        calls++;
        checks.due("run " + run + ", call " + calls + ": " + call, got, want);
    }

    private void set(int setting, int value) {
        due("set(" + setting + ", " + value + ")", x.set(setting, value), model.set(setting, value));
    }

    private void change() {
        switch (below(20)) {
            case 0: case 1: case 2: case 3: case 4:
                int word = odd(isOneIn(4) ? 85 : isOneIn(5) ? 0 : below(256));
                due("send(" + word + ")", x.send(word), model.send(word));
                break;
            case 5:
                int pause = odd(between(1, isOneIn(5) ? 500 : 60));
                due("pause(" + pause + ")", x.pause(pause), model.stretch(1, pause));
                break;
            case 6:
                int ticks = odd(between(1, isOneIn(3) ? 500 : 40));
                due("sendBreak(" + ticks + ")", x.sendBreak(ticks), model.stretch(0, ticks));
                break;
            case 7: case 8: case 9:
                disturb();
                break;
            case 10:
                if (isOneIn(3)) {
                    due("clear()", x.clear(), model.clear());
                }
                break;
            case 11:
                setAnything();
                break;
            case 12:
                due("learn()", x.learn(), model.learn());
                break;
            case 13: case 14:
                performAText();
                break;
            case 15: case 16: case 17:
                due("undo()", x.undo(), model.undo());
                break;
            case 18:
                due("keep()", x.keep(), model.keep());
                break;
            default:
                due("restore()", x.restore(), model.restore());
                break;
        }
    }

    private void disturb() {
        int ticks = odd(between(1, isOneIn(4) ? 40 : 6));
        int at = odd(below(Math.max(1, model.total(5))));
        due("disturb(" + at + ", " + ticks + ")", x.disturb(at, ticks), model.disturb(at, ticks));
    }

    private void setAnything() {
        int setting = odd(below(5));
        int value;
        switch (setting) {
            case 0: value = model.total(0) + between(-9, 9); break;
            case 1: value = model.total(1) + between(-2, 2); break;
            default: value = below(3); break;
        }
        set(setting, odd(value));
    }

    private void performAText() {
        if (isOneIn(3)) {
            due("clearText()", x.clearText(), model.clearText());
            StringBuilder program = new StringBuilder();
            program(program, 0);
            for (int index = 0; index < program.length() && calls < CALLS; index++) {
                char character = isOneIn(60) ? ".,_()0123456789abcdefg".charAt(below(22)) : program.charAt(index);
                due("type((char) " + (int) character + ")", x.type(character), model.type(character));
            }
        }
        if (calls < CALLS) {
            due("perform()", x.perform(), model.perform());
        }
    }

    private void program(StringBuilder to, int depth) {
        int items = between(1, 3);
        for (int item = 0; item < items; item++) {
            if (item > 0) {
                to.append(',');
            }
            switch (below(depth < 4 ? 5 : 3)) {
                case 0: to.append('.').append(between(1, isOneIn(2) ? 9 : 99)); break;
                case 1: to.append('_').append(between(1, isOneIn(2) ? 9 : 99)); break;
                case 2: to.append(Integer.toHexString(256 + below(256)).substring(1)); break;
                default:
                    to.append(between(2, isOneIn(3) ? 9 : 3)).append('(');
                    program(to, depth + 1);
                    to.append(')');
                    break;
            }
        }
    }

    private void look() {
        switch (below(12)) {
            case 0:
                int tick = odd(below(1510));
                due("level(" + tick + ")", x.level(tick), model.level(tick));
                break;
            case 1:
                int fall = odd(below(40));
                due("fall(" + fall + ")", x.fall(fall), model.fall(fall));
                break;
            case 2:
                int sent = odd(below(12));
                due("sent(" + sent + ")", x.sent(sent), model.sent(sent));
                break;
            case 3: case 4: case 5:
                int rank = odd(below(isOneIn(3) ? 20 : 4));
                int note = odd(below(5));
                due("received(" + rank + ", " + note + ")", x.received(rank, note), model.received(rank, note));
                break;
            case 6: case 7: case 8:
                int what = odd(below(20));
                due("total(" + what + ")", x.total(what), model.total(what));
                break;
            default:
                lookAtWhatWouldBe();
                break;
        }
    }

    private void lookAtWhatWouldBe() {
        switch (below(9)) {
            case 0: case 1: case 2:
                int length = odd(isOneIn(2) ? between(4, 40) : model.total(1) + between(-1, 1));
                int what = odd(below(4));
                due("ifLength(" + length + ", " + what + ")", x.ifLength(length, what), model.ifLength(length, what));
                break;
            case 3: case 4:
                boolean isGreatest = isOneIn(2);
                due("goodLength(" + isGreatest + ")", x.goodLength(isGreatest), model.goodLength(isGreatest));
                break;
            case 5: case 6:
                int ticks = odd(between(1, isOneIn(3) ? 40 : 5));
                due("harm(" + ticks + ")", x.harm(ticks), model.harm(ticks));
                break;
            default:
                int word = odd(isOneIn(2) ? 85 : below(256));
                due("ifSent(" + word + ")", x.ifSent(word), model.ifSent(word));
                break;
        }
    }
}
