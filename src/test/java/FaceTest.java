import java.lang.reflect.Constructor;
import java.lang.reflect.Field;
import java.lang.reflect.Method;
import java.lang.reflect.Modifier;
import java.util.Set;
import java.util.TreeSet;

/** The public face, no member more and none less. */
final class FaceTest {
    private static final String[] METHODS = {
        "appendByte(int)", "clearBytes()", "errorOffset()", "objectCount()", "objectTag(int)", "objectDepth(int)",
        "objectLength(int)", "findObject(int,int)", "insertCard()", "priorityOf(int)", "setIssuerCode(int,int)",
        "addIdentifier(boolean)", "removeIdentifier(int)", "setTerminalCode(int,int)", "setFloorLimit(int)",
        "setOfflineLimits(int,int)", "setRandomTarget(int)", "setOnline(boolean)", "candidateCount()",
        "candidateAt(int)", "select(int,boolean)", "start(int,int)", "answer(int)", "sendReversal(boolean)",
        "reversalCount()", "verificationResults()", "outcomeCount(int)", "outcomeAmount(int)", "offlineCounter()",
    };
    private static final String[] CONSTANTS = {
        "INVALID_ARGUMENT=-1", "INVALID_STATE=-2", "LIMIT_REACHED=-3", "NOT_FOUND=-4",
        "DECLINED=0", "APPROVED_OFFLINE=1", "APPROVED_ONLINE=2", "PENDING=3",
        "HOST_DECLINES=0", "HOST_APPROVES=1", "ANSWER_LOST=2",
    };

    private FaceTest() {
    }

    private static void same(String what, Set<String> got, String... want) {
        Set<String> due = new TreeSet<>(java.util.List.of(want));
        Checks.isTrue(what + " are " + got + ", due are " + due, got.equals(due));
    }

    private static boolean isHidden(int modifiers) {
        return Modifier.isPrivate(modifiers);
    }

    static void methods() {
        Set<String> shown = new TreeSet<>();
        Set<String> shownNames = new TreeSet<>();
        Set<String> hiddenNames = new TreeSet<>();
        for (Method method : CardTerminal.class.getDeclaredMethods()) {
            if (isHidden(method.getModifiers())) {
                hiddenNames.add(method.getName());
            } else {
                String whole = method.toString();
                shown.add(whole.substring(whole.indexOf("CardTerminal.") + "CardTerminal.".length()));
                shownNames.add(method.getName());
                Checks.isTrue(whole, whole.startsWith("public int "));
            }
        }
        same("the methods", shown, METHODS);
        for (Class<?> inside : CardTerminal.class.getDeclaredClasses()) {
            for (Method method : inside.getDeclaredMethods()) {
                hiddenNames.add(method.getName());
            }
        }
        hiddenNames.retainAll(shownNames);
        same("hidden methods with a public name", hiddenNames);
    }

    static void constants() throws IllegalAccessException {
        Set<String> shown = new TreeSet<>();
        for (Field field : CardTerminal.class.getDeclaredFields()) {
            int modifiers = field.getModifiers();
            if (!isHidden(modifiers)) {
                boolean constant = Modifier.isPublic(modifiers) && Modifier.isStatic(modifiers)
                    && Modifier.isFinal(modifiers) && field.getType() == int.class;
                Checks.isTrue(field + " is no constant", constant);
                shown.add(field.getName() + "=" + field.getInt(null));
            }
        }
        same("the constants", shown, CONSTANTS);
    }

    static void classAndConstructor() {
        int modifiers = CardTerminal.class.getModifiers();
        Checks.isTrue("public and final", Modifier.isPublic(modifiers) && Modifier.isFinal(modifiers));
        Checks.isTrue("no package", CardTerminal.class.getPackageName().isEmpty());
        Constructor<?>[] all = CardTerminal.class.getDeclaredConstructors();
        Checks.due("constructors", all.length, 1);
        Checks.due("its parameters", all[0].getParameterCount(), 0);
        Checks.isTrue("public constructor", Modifier.isPublic(all[0].getModifiers()));
    }

    static void classesInside() {
        Class<?>[] inside = CardTerminal.class.getDeclaredClasses();
        Checks.isTrue("some twelve classes at most", inside.length < 14);
        for (Class<?> one : inside) {
            int modifiers = one.getModifiers();
            Checks.isTrue(one + " static", Modifier.isStatic(modifiers));
            Checks.isTrue(one + " not shown", !Modifier.isPublic(modifiers) && !Modifier.isProtected(modifiers));
        }
    }

    private static java.util.List<Class<?>> all() {
        java.util.List<Class<?>> all = new java.util.ArrayList<>(java.util.List.of(CardTerminal.class));
        all.addAll(java.util.List.of(CardTerminal.class.getDeclaredClasses()));
        return all;
    }

    static void staticFieldsAreFinal() {
        for (Class<?> one : all()) {
            for (Field field : one.getDeclaredFields()) {
                int modifiers = field.getModifiers();
                Checks.isTrue(field + " final", !Modifier.isStatic(modifiers) || Modifier.isFinal(modifiers));
            }
        }
    }

    static void atMostSevenParameters() {
        for (Class<?> one : all()) {
            for (Method method : one.getDeclaredMethods()) {
                Checks.isTrue(method.toString(), method.getParameterCount() <= 7);
            }
        }
    }
}
