import java.io.IOException;
import java.nio.file.Files;
import java.nio.file.Path;
import java.util.List;

/**
 * What of ../shared/LANGUAGE.md can be seen in a file, and that it is seen: each of some small faults, put into
 * a program that keeps the rules, is to be found under its rule. It is no proof that all of them are kept.
 */
public final class LanguageTest {

    private static final Checks CHECKS = new Checks("LanguageTest");

    private static final String IMPORTS = "import java.util.ArrayList;\nimport java.util.Arrays;\n"
            + "import java.util.Iterator;\nimport java.util.List;\n";
    private static final String PROGRAM = "public final class Program {\n"
            + "    public static final int NONE = -5;\n"
            + "    private final int number;\n"
            + "    public Program() { number = 1; }\n"
            + "    public int tell(int argument) { return number + argument; }\n";

    /** What the rules leave. */
    private static final String[] KEPT = {
        "private static final int[] ROW = {1, 2};",
        "private static final String TEXT = \"a\";",
        "private static final Kind[] KINDS = Kind.values();",
        "private enum Kind { ONE(1), TWO(2); private final int value; Kind(int value) { this.value = value; } "
            + "int value() { return value; } }",
        "private interface Shape { int size(); }",
        "private static final class Box implements Shape, Comparable<Box> { private final int[][] rows; private int size; "
            + "Box() { rows = new int[2][3]; } public int size() { return size + rows.length; } "
            + "public int compareTo(Box other) { return Integer.compare(size, other.size); } }",
        "private record Pair(int left, int right) { }",
        "private static final class Rows<T> { private final ArrayList<T> all = new ArrayList<>(); "
            + "void put(T one) { all.add(one); } T at(int index) { return index < all.size() ? all.get(index) : null; } }",
        "private static final class Counter implements Iterator<Integer> { private int at; "
            + "public boolean hasNext() { return at < 9; } public Integer next() { at++; return at; } }",
        "private int sum() { int sum = 0; for (int each : ROW) { sum += each; } while (sum > 9) { sum--; } return sum; }",
        "private int lists() { List<Box> all = new ArrayList<>(); all.add(new Box()); all.add(0, new Box()); "
            + "all.remove(0); return all.isEmpty() ? 0 : all.get(0).size(); }",
        "private static int again(int left) { return left > 0 && left < 40 ? again(left - 1) : 0; }",
        "private String text() { StringBuilder made = new StringBuilder(); made.append('a').append(\"b\").append(3); "
            + "made.setLength(2); return made.toString().substring(0, 1); }",
        "private int bits(long all) { return Long.bitCount(all) + Math.max(1, 2) + Math.floorMod(7, 3); }",
        "private int[] rows() { int[] rows = new int[3]; Arrays.fill(rows, 1); System.arraycopy(ROW, 0, rows, 0, 2); "
            + "rows[0]++; return Arrays.copyOf(rows.clone(), 2); }",
        "private int sizeOf(Shape shape) { if (shape instanceof Box box) { return ((Box) shape).size() + box.size; } "
            + "switch (KINDS[0]) { case ONE: return 1; default: return KINDS.length; } }",
        "private double half(double whole) { return whole / 2 + (int) whole; }",
        "private boolean isText(String text, Box one, Box other) { return text.equals(TEXT) && one != other; }",
    };

    /** Each with the rule that forbids it. */
    private static final String[][] BROKEN = {
        {"1", "int shown;"},
        {"1", "protected int shown() { return 1; }"},
        {"1", "private int tell(long argument) { return 1; }"},
        {"1", "private static final class Inside { private int tell() { return 1; } int other() { return tell(); } }"},
        {"1", "public static final class Shown { }"},
        {"1", "protected interface Shown { }"},
        {"2", "private final class Inner { }"},
        {"2", "private int f() { class Local { } return 1; }"},
        {"2", "private interface Call { int on(); } private int f() { Call call = () -> 1; return call.on(); }"},
        {"2", "private interface Call { int on(int a); } private int f() { Call call = Math::abs; return call.on(1); }"},
        {"2", "private interface Call { } private int f() { Call call = new Call() { }; return call == null ? 0 : 1; }"},
        {"2", "private enum Kind { ONE { @Override int value() { return 1; } }; int value() { return 2; } }"},
        {"2", "private enum Kind { ONE; private final double value = 1; }"},
        {"3", "private final Object any = null;"},
        {"3", "private final String[] texts = new String[2];"},
        {"3", "private final int[][][] rows = new int[2][2][2];"},
        {"3", "private final boolean[][] rows = new boolean[2][2];"},
        {"3", "private static final class Box { } private final Box[][] boxes = new Box[2][2];"},
        {"3", "private final List<String> texts = new ArrayList<>();"},
        {"3", "private Long f() { return 1L; }"},
        {"3", "private int f(java.util.Map<Integer, Integer> map) { return 1; }"},
        {"3", "private double f(double a) { return a % 2; }"},
        {"4", "private int f(String text) { return text.hashCode(); }"},
        {"4", "private int f(String text) { return text.indexOf(\"a\"); }"},
        {"4", "private String f(String text) { return text.trim(); }"},
        {"4", "private String f() { return new String(); }"},
        {"4", "private String f(int a) { return String.valueOf(a); }"},
        {"4", "private String f(int a) { return Integer.toString(a); }"},
        {"4", "private int f(int a) { return Math.addExact(a, a); }"},
        {"4", "private double f(double a) { return Math.max(a, a); }"},
        {"4", "private double f(double a) { return Math.sqrt(a); }"},
        {"4", "private int f() { return Integer.MAX_VALUE; }"},
        {"4", "private int f() { System.out.println(); return 1; }"},
        {"4", "private long f() { return System.nanoTime(); }"},
        {"4", "private int f() { return (int) Thread.currentThread().getId(); }"},
        {"4", "private int f(List<Integer> all) { all.addAll(all); return 1; }"},
        {"4", "private int f(List<Integer> all, Integer one) { return all.remove(one) ? 1 : 0; }"},
        {"4", "private int f(StringBuilder made) { made.append(1L); return 1; }"},
        {"4", "private int f(StringBuilder made) { made.insert(0, 'a'); return 1; }"},
        {"4", "private int f(int[] row) { Arrays.sort(row); return 1; }"},
        {"4", "private static final class Box { } private int f(Box[] row) { Arrays.fill(row, null); return 1; }"},
        {"4", "private int f() { return \"\\u00e9\".length(); }"},
        {"4", "private int f() { return new java.util.Random().nextInt(); }"},
        {"4", "// \u00e9"},
        {"5", "private static int count;"},
        {"5", "private static final double HALF = 0.5;"},
        {"5", "private static final int[] ROW = new int[3];"},
        {"5", "private static final double[] ROW = {1, 2};"},
        {"5", "private static final StringBuilder MADE = new StringBuilder();"},
        {"5", "private static final int[] ROW = {1, 2}; private int f() { ROW[0] = 3; return 1; }"},
        {"5", "private static final int[] ROW = {1, 2}; private int f() { ROW[0] += 3; return 1; }"},
        {"5", "private static final int[] ROW = {1, 2}; private int f() { ROW[0]++; return 1; }"},
        {"5", "private static final int[] ROW = {1, 2}; private int f() { Arrays.fill(ROW, 3); return 1; }"},
        {"5", "private static final int[] ROW = {1, 2}; private int f(int[] from) { System.arraycopy(from, 0, ROW, 0, 2); "
            + "return 1; }"},
        {"5", "private static final int FIVE; static { FIVE = 5; }"},
        {"6", "private int f() { throw new IllegalArgumentException(); }"},
        {"6", "private int f() { try { return 1; } finally { tell(1); } }"},
        {"6", "private int f() { synchronized (this) { return 1; } }"},
        {"6", "private int f() { assert number == 1; return 1; }"},
        {"6", "private int f() throws InterruptedException { return 1; }"},
        {"6", "private boolean f(String a, String b) { return a == b; }"},
        {"6", "private boolean f(Integer a, Integer b) { return a != b; }"},
        {"6", "private Integer f(Object a) { return (Integer) a; }"},
        {"6", "@Override public int hashCode() { return 1; }"},
        {"6", "private static final class Box { @Override public String toString() { return \"\"; } }"},
        {"9", "private int f() { for (;;) { if (tell(1) > 1) { return 1; } } }"},
        {"9", "private int f() { while (true) { if (tell(1) > 1) { return 1; } } }"},
        {"9", "private int f() { do { if (tell(1) > 1) { return 1; } } while (true); }"},
        {"10", "private String f(int a) { return \"a\" + a; }"},
        {"10", "private String f(String a) { a += 'b'; return a; }"},
        {"10", "private int f(String a) { switch (a) { case \"a\": return 1; default: return 2; } }"},
        {"11", "private int f(int a, int b, int c, int d, int e, int g, int h, int i) { return 1; }"},
        {"11", "private int f() { return 1" + "\n + 1".repeat(70) + "; }"},
        {"11", fields(24)},
        {"11", classes(14)},
        {"11", chain(9)},
    };

    public static void main(String[] args) throws IOException {
        seesWhatIsBroken();
        leavesWhatIsKept();
        Path file = Path.of("src/main/java/ThirdVotes.java");
        List<String> breaches = Language.breaches("ThirdVotes", Files.readString(file));
        CHECKS.same("what " + file + " breaks", String.join("; ", breaches), "");
        CHECKS.close();
    }

    private static void seesWhatIsBroken() throws IOException {
        for (String[] pair : BROKEN) {
            List<String> breaches = Language.breaches("Program", IMPORTS + PROGRAM + pair[1] + "\n}\n");
            CHECKS.holds("rule " + pair[0] + " is seen to be broken by " + pair[1] + ", seen is " + breaches,
                    breaches.stream().anyMatch(breach -> breach.startsWith("rule " + pair[0] + ",")));
        }
        String[][] files = {
            {"1", "package some.where;\n" + PROGRAM + "}\n"},
            {"1", PROGRAM + "}\nfinal class Other { }\n"},
            {"1", PROGRAM.replace("final class", "class") + "}\n"},
            {"4", "import java.util.Map;\n" + PROGRAM + "}\n"},
            {"4", "import static java.lang.Math.max;\n" + PROGRAM + "}\n"},
        };
        for (String[] pair : files) {
            List<String> breaches = Language.breaches("Program", pair[1]);
            CHECKS.holds("rule " + pair[0] + " is seen to be broken, seen is " + breaches,
                    breaches.stream().anyMatch(breach -> breach.startsWith("rule " + pair[0] + ",")));
        }
    }

    private static void leavesWhatIsKept() throws IOException {
        String source = IMPORTS + PROGRAM + String.join("\n", KEPT) + "\n" + chain(8) + "\n}\n";
        CHECKS.same("what a program breaks that keeps the rules",
                String.join("; ", Language.breaches("Program", source)), "");
    }

    private static String fields(int count) {
        StringBuilder fields = new StringBuilder("private static final class Many { ");
        for (int field = 0; field < count; field++) {
            fields.append("private int field").append(field).append("; ");
        }
        return fields.append("}").toString();
    }

    private static String classes(int count) {
        StringBuilder classes = new StringBuilder();
        for (int each = 0; each < count; each++) {
            classes.append("private static final class Class").append(each).append(" { }\n");
        }
        return classes.toString();
    }

    /** Methods of which each calls the next one. */
    private static String chain(int count) {
        StringBuilder chain = new StringBuilder();
        for (int each = 1; each < count; each++) {
            chain.append("private int step").append(each).append("() { return step").append(each + 1).append("(); }\n");
        }
        return chain.append("private int step").append(count).append("() { return 1; }").toString();
    }
}
