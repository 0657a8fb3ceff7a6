import java.io.IOException;
import java.lang.reflect.Field;
import java.lang.reflect.Method;
import java.lang.reflect.Modifier;
import java.nio.file.Files;
import java.nio.file.Path;
import java.util.ArrayList;
import java.util.HashSet;
import java.util.List;
import java.util.Set;
import java.util.regex.Matcher;
import java.util.regex.Pattern;

/** What of ../shared/LANGUAGE.md can be seen from outside; it is no proof that all of it is kept. */
public final class LanguageTest {

    private static final Checks CHECKS = new Checks("LanguageTest");
    private static final int MOST_CLASSES = 12;
    private static final int MOST_FIELDS = 20;
    private static final int MOST_PARAMETERS = 7;
    private static final int MOST_LINES = 60;

    /** Each with the rule that forbids it. */
    private static final String[][] FORBIDDEN = {
        {"6", "\\b(throw|throws|try|catch|finally|synchronized|assert)\\b"},
        {"2", "->"}, {"2", "::"}, {"2", "\\bnew \\w+(<.*>)?\\([^;]*\\)\\s*\\{"},
        {"5", "\\bstatic\\s*\\{"}, {"6", "\\b(equals|hashCode|toString)\\s*\\("},
        {"4", "\\bimport (?!java\\.util\\.(Arrays|ArrayList|List|Iterator);)"}, {"1", "\\bpackage\\b"},
        {"4", "\\w+Exact\\b"}, {"13", "\\b(Thread|Random|System\\.(?!arraycopy))"},
    };

    public static void main(String[] args) throws IOException {
        String source = Files.readString(Path.of("src/main/java/ThirdVotes.java"));
        String code = source.replaceAll("(?s)/\\*.*?\\*/", "").replaceAll("//[^\n]*", "");
        for (String[] rule : FORBIDDEN) {
            Matcher found = Pattern.compile(rule[1]).matcher(code);
            CHECKS.holds("rule " + rule[0] + " is kept by " + rule[1], !found.find());
        }
        CHECKS.holds("rule 4: all signs are 1 to 127", source.chars().allMatch(sign -> sign >= 1 && sign <= 127));
        lengthsOfMethods(source);
        List<Class<?>> classes = new ArrayList<>(List.of(ThirdVotes.class.getDeclaredClasses()));
        CHECKS.holds("rule 11: there are few classes", classes.size() < MOST_CLASSES);
        for (Class<?> inside : classes) {
            CHECKS.holds("rule 1: " + inside + " is static and not public or protected",
                    Modifier.isStatic(inside.getModifiers())
                    && (inside.getModifiers() & (Modifier.PUBLIC | Modifier.PROTECTED)) == 0);
        }
        classes.add(ThirdVotes.class);
        for (Class<?> each : classes) {
            fields(each);
            methods(each);
        }
        CHECKS.close();
    }

    /** A method ends with the first brace that stands as far to the right as its head. */
    private static void lengthsOfMethods(String source) {
        List<String> lines = source.lines().toList();
        int methods = 0;
        for (int head = 0; head < lines.size(); head++) {
            Matcher matcher = Pattern.compile("( {4}| {8})(?! )\\w.*\\) \\{").matcher(lines.get(head));
            if (matcher.matches()) {
                int end = head + lines.subList(head, lines.size()).indexOf(matcher.group(1) + "}");
                CHECKS.holds("rule 11: the method at line " + (head + 1) + " is short", end - head < MOST_LINES);
                methods++;
            }
        }
        CHECKS.holds("the methods were found", methods > 22);
    }

    private static void fields(Class<?> each) {
        int fields = 0;
        for (Field field : each.getDeclaredFields()) {
            if (Modifier.isStatic(field.getModifiers())) {
                CHECKS.holds("rule 5: " + field + " is final", Modifier.isFinal(field.getModifiers()));
            } else {
                fields++;
            }
        }
        CHECKS.holds("rule 11: " + each + " has few fields", fields <= MOST_FIELDS);
    }

    private static void methods(Class<?> each) {
        Set<String> face = new HashSet<>();
        for (Method method : ThirdVotes.class.getMethods()) {
            face.add(method.getName());
        }
        for (Method method : each.getDeclaredMethods()) {
            CHECKS.holds("rule 1: " + method + " does not bear the name of a public method",
                    Modifier.isPublic(method.getModifiers()) || !face.contains(method.getName()));
            CHECKS.holds("rule 11: " + method + " has few parameters", method.getParameterCount() <= MOST_PARAMETERS);
        }
    }
}
