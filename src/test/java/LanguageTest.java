import java.io.IOException;
import java.lang.reflect.Field;
import java.lang.reflect.Method;
import java.lang.reflect.Modifier;
import java.nio.file.Files;
import java.nio.file.Path;
import java.util.ArrayDeque;
import java.util.ArrayList;
import java.util.Deque;
import java.util.HashSet;
import java.util.List;
import java.util.Set;
import java.util.regex.Matcher;
import java.util.regex.Pattern;

/** What of ../shared/LANGUAGE.md can be seen from outside; it is no proof that all of it is kept. */
public final class LanguageTest {

    private static final Checks CHECKS = new Checks("LanguageTest");
    private static final int SOME_TWELVE = 14;
    private static final int SOME_TWENTY = 23;
    private static final int SOME_SIXTY = 70;
    private static final int MOST_PARAMETERS = 7;

    /** Each with the rule that forbids it. */
    private static final String[][] FORBIDDEN = {
        {"6", "\\b(throw|throws|try|catch|finally|synchronized|assert)\\b"},
        {"2", "->"}, {"2", "::"}, {"5", "\\bstatic\\s*\\{"}, {"1", "\\bpackage\\b"},
        {"4", "\\bimport (?!java\\.util\\.(Arrays|ArrayList|List|Iterator);)"}, {"4", "\\w+Exact\\b"},
        {"6", "\\bhashCode\\s*\\("}, {"13", "\\b(Thread|Random|System\\.(?!arraycopy))"},
    };

    public static void main(String[] args) throws IOException {
        String source = Files.readString(Path.of("src/main/java/ThirdVotes.java"));
        CHECKS.holds("rule 4: all signs are 1 to 127", source.chars().allMatch(sign -> sign >= 1 && sign <= 127));
        String code = withoutTexts(source);
        String withoutArrows = code.replaceAll("(\\bcase\\b[^:;{}]*?|\\bdefault\\s*)->", "$1");
        for (String[] rule : FORBIDDEN) {
            Matcher found = Pattern.compile(rule[1]).matcher(withoutArrows);
            CHECKS.holds("rule " + rule[0] + " is kept by " + rule[1], !found.find());
        }
        anonymousClasses(code);
        lengthsOfMethods(code);
        List<Class<?>> classes = new ArrayList<>(List.of(ThirdVotes.class.getDeclaredClasses()));
        CHECKS.holds("rule 11: there are few classes", classes.size() + 1 <= SOME_TWELVE);
        for (Class<?> inside : classes) {
            CHECKS.holds("rule 1: " + inside + " is static and not public or protected",
                    Modifier.isStatic(inside.getModifiers())
                    && (inside.getModifiers() & (Modifier.PUBLIC | Modifier.PROTECTED)) == 0);
        }
        classes.add(ThirdVotes.class);
        for (Class<?> each : classes) {
            fields(each);
            methods(each);
        }
        namesOfPrivateMethods();
        CHECKS.close();
    }

    /** The code without comments, texts and characters, on the lines where it stands. */
    private static String withoutTexts(String source) {
        Pattern texts = Pattern.compile("(?s)/\\*.*?\\*/|//[^\n]*|\"(\\\\.|[^\"\\\\])*\"|'(\\\\.|[^'\\\\])+'");
        return texts.matcher(source).replaceAll(found -> found.group().replaceAll("[^\n]", " "));
    }

    private static void anonymousClasses(String code) {
        Matcher made = Pattern.compile("\\bnew\\s+[\\w.]+\\s*(<[^()]*>)?\\s*\\(").matcher(code);
        while (made.find()) {
            int open = 1;
            int at = made.end();
            for (; at < code.length() && open > 0; at++) {
                open += code.charAt(at) == '(' ? 1 : code.charAt(at) == ')' ? -1 : 0;
            }
            CHECKS.holds("rule 2: there is no anonymous class", !code.substring(at).stripLeading().startsWith("{"));
        }
    }

    /** Goes through the braces: one that opens directly in a class, behind a parenthesis, opens a method. */
    private static void lengthsOfMethods(String code) {
        Deque<String> kinds = new ArrayDeque<>();
        Deque<Integer> begins = new ArrayDeque<>();
        int line = 1;
        StringBuilder head = new StringBuilder();
        for (char sign : code.toCharArray()) {
            line += sign == '\n' ? 1 : 0;
            if (sign == '{') {
                boolean isClass = Pattern.compile("\\b(class|interface|enum|record)\\b").matcher(head).find();
                boolean isMethod = "class".equals(kinds.peek()) && head.indexOf("(") >= 0;
                kinds.push(isClass ? "class" : isMethod ? "method" : "block");
                begins.push(line);
            } else if (sign == '}' && !kinds.isEmpty()) {
                int lines = line - begins.pop();
                CHECKS.holds("rule 11: the method that ends at line " + line + " is short",
                        !kinds.pop().equals("method") || lines <= SOME_SIXTY);
            }
            if (sign == '{' || sign == '}' || sign == ';') {
                head.setLength(0);
            } else {
                head.append(sign);
            }
        }
        CHECKS.holds("the braces fit", kinds.isEmpty());
    }

    private static void fields(Class<?> each) {
        int fields = 0;
        for (Field field : each.getDeclaredFields()) {
            if (Modifier.isStatic(field.getModifiers())) {
                CHECKS.holds("rule 5: " + field + " is final", Modifier.isFinal(field.getModifiers()));
            } else {
                fields++;
            }
        }
        CHECKS.holds("rule 11: " + each + " has few fields", fields <= SOME_TWENTY);
    }

    private static void methods(Class<?> each) {
        for (Method method : each.getDeclaredMethods()) {
            CHECKS.holds("rule 11: " + method + " has few parameters", method.getParameterCount() <= MOST_PARAMETERS);
        }
    }

    private static void namesOfPrivateMethods() {
        Set<String> face = new HashSet<>();
        for (Method method : ThirdVotes.class.getDeclaredMethods()) {
            if (Modifier.isPublic(method.getModifiers())) {
                face.add(method.getName());
            }
        }
        for (Method method : ThirdVotes.class.getDeclaredMethods()) {
            CHECKS.holds("rule 1: " + method + " does not bear the name of a public method",
                    Modifier.isPublic(method.getModifiers()) || !face.contains(method.getName()));
        }
    }
}
