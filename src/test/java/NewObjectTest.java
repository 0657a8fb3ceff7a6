import java.lang.reflect.Constructor;
import java.lang.reflect.Field;
import java.lang.reflect.Method;
import java.lang.reflect.Modifier;
import java.util.ArrayList;
import java.util.Collections;
import java.util.List;

/** The face of the class, and promise 1. */
public final class NewObjectTest {

    private static final String[] METHODS = {
        "send(int)", "pause(int)", "sendBreak(int)", "disturb(int,int)", "clear()", "set(int,int)",
        "learn()", "type(char)", "clearText()", "perform()", "undo()", "keep()", "restore()",
        "level(int)", "fall(int)", "sent(int)", "received(int,int)", "total(int)",
        "ifLength(int,int)", "goodLength(boolean)", "harm(int)", "ifSent(int)"};

    private static final String[] CONSTANTS = {"FULL", "NONE", "OUT_OF_RANGE", "UNKNOWN"};

    public static void main(String[] args) {
        Checks checks = new Checks("NewObjectTest");
        theFace(checks);
        theConstants(checks);
        aNewObject(checks);
        twoObjects(checks);
        checks.close();
    }

    private static void theFace(Checks checks) {
        int modifiers = ThirdVotes.class.getModifiers();
        checks.holds("the class is public and final",
                Modifier.isPublic(modifiers) && Modifier.isFinal(modifiers));
        List<String> methods = new ArrayList<>();
        for (Method method : ThirdVotes.class.getDeclaredMethods()) {
            if (!Modifier.isPrivate(method.getModifiers()) && !method.isSynthetic()) {
                checks.holds(method.getName() + " is public, not static, and answers an int",
                        Modifier.isPublic(method.getModifiers())
                        && !Modifier.isStatic(method.getModifiers())
                        && method.getReturnType() == int.class);
                methods.add(signature(method));
            }
        }
        List<String> due = new ArrayList<>(List.of(METHODS));
        Collections.sort(methods);
        Collections.sort(due);
        checks.holds("the methods are " + due + ", they are " + methods, methods.equals(due));
        Constructor<?>[] constructors = ThirdVotes.class.getDeclaredConstructors();
        checks.holds("there is one public constructor without parameters", constructors.length == 1
                && Modifier.isPublic(constructors[0].getModifiers())
                && constructors[0].getParameterCount() == 0);
    }

    private static String signature(Method method) {
        StringBuilder signature = new StringBuilder(method.getName()).append('(');
        for (Class<?> parameter : method.getParameterTypes()) {
            if (signature.charAt(signature.length() - 1) != '(') {
                signature.append(',');
            }
            signature.append(parameter.getName());
        }
        return signature.append(')').toString();
    }

    private static void theConstants(Checks checks) {
        List<String> constants = new ArrayList<>();
        for (Field field : ThirdVotes.class.getDeclaredFields()) {
            if (!Modifier.isPrivate(field.getModifiers())) {
                constants.add(field.getName());
            }
        }
        Collections.sort(constants);
        checks.holds("the constants are as due, they are " + constants,
                constants.equals(List.of(CONSTANTS)));
        checks.due("UNKNOWN", ThirdVotes.UNKNOWN, -1);
        checks.due("OUT_OF_RANGE", ThirdVotes.OUT_OF_RANGE, -2);
        checks.due("FULL", ThirdVotes.FULL, -3);
        checks.due("NONE", ThirdVotes.NONE, -5);
    }

    private static void aNewObject(Checks checks) {
        ThirdVotes x = new ThirdVotes();
        int[] totals = {256, 16, 0, 1, 0, 0, 0, 0, 0, 0, 0, 0, 0, 0, 1, 0, 0, -5, 0, 0};
        for (int what = 0; what < totals.length; what++) {
            checks.due("total(" + what + ")", x.total(what), totals[what]);
        }
        checks.due("level(0)", x.level(0), 1);
        checks.due("fall(0)", x.fall(0), -5);
        checks.due("sent(0)", x.sent(0), -5);
        checks.due("received(0, 0)", x.received(0, 0), -5);
        checks.due("undo()", x.undo(), -5);
        checks.due("restore()", x.restore(), -5);
        checks.due("perform()", x.perform(), -100);
    }

    private static void twoObjects(Checks checks) {
        ThirdVotes x = new ThirdVotes();
        ThirdVotes y = new ThirdVotes();
        x.send(1);
        x.set(1, 20);
        x.type('a');
        x.keep();
        checks.due("total(5) of another object", y.total(5), 0);
        checks.due("total(1) of another object", y.total(1), 16);
        checks.due("total(19) of another object", y.total(19), 0);
        checks.due("restore() of another object", y.restore(), -5);
    }
}
