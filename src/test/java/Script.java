import java.lang.reflect.Method;
import java.lang.reflect.Modifier;
import java.util.HashMap;
import java.util.Map;

/**
 * Runs calls on a new object and looks at each answer. A line is a call and the answer that is due:
 * "step 0 2501 = 1". The words yes, no, none and refused stand for 1, 0, -1 and -2147483648; what
 * is behind a '#' is left out.
 */
final class Script {

    private static final Map<Class<?>, Map<String, Method>> METHODS = new HashMap<>();

    private final String title;
    private final WordsBeside object = new WordsBeside();
    private static int wrong = 0;

    Script(String title) {
        this.title = title;
    }

    static void hold(String title, String lines) {
        new Script(title).hold(lines);
    }

    /** For the end of each test's main method. */
    static void end() {
        System.out.println(wrong == 0 ? "all answers are as due" : wrong + " answers are not as due");
        if (wrong != 0) {
            System.exit(1);
        }
    }

    Script hold(String lines) {
        for (String line : lines.split("\n")) {
            String told = line.replaceFirst("#.*", "").trim();
            if (!told.isEmpty()) {
                holdLine(told);
            }
        }
        return this;
    }

    private void holdLine(String line) {
        String[] sides = line.split("=");
        String[] words = sides[0].trim().split(" +");
        int[] arguments = new int[words.length - 1];
        for (int i = 0; i < arguments.length; i++) {
            arguments[i] = number(words[i + 1]);
        }
        due(title + ": " + sides[0].trim(), call(object, words[0], arguments), number(sides[1].trim()));
    }

    static void due(String what, int got, int want) {
        if (got != want) {
            wrong++;
            System.out.println(what + " answered " + got + ", due is " + want);
        }
    }

    static int call(Object object, String name, int... arguments) {
        Object[] boxed = new Object[arguments.length];
        for (int i = 0; i < boxed.length; i++) {
            boxed[i] = arguments[i];
        }
        try {
            Object answer = method(object.getClass(), name).invoke(object, boxed);
            return answer instanceof Boolean ? ((Boolean) answer ? 1 : 0) : (Integer) answer;
        } catch (ReflectiveOperationException e) {
            throw new IllegalStateException(name, e);
        }
    }

    private static int number(String word) {
        switch (word) {
            case "yes":
                return 1;
            case "no":
                return 0;
            case "none":
                return -1;
            case "refused":
                return Integer.MIN_VALUE;
            case "most":
                return Integer.MAX_VALUE;
            default:
                return Integer.parseInt(word);
        }
    }

    private static Method method(Class<?> owner, String name) {
        return METHODS.computeIfAbsent(owner, Script::publicMethods).get(name);
    }

    private static Map<String, Method> publicMethods(Class<?> owner) {
        Map<String, Method> found = new HashMap<>();
        for (Method method : owner.getDeclaredMethods()) {
            if (Modifier.isPublic(method.getModifiers())) {
                found.put(method.getName(), method);
            }
        }
        return found;
    }
}
