import java.lang.reflect.InvocationTargetException;
import java.lang.reflect.Method;
import java.lang.reflect.Modifier;
import java.util.Arrays;
import java.util.HashMap;
import java.util.Map;

/**
 * Runs calls on a new object and looks at each answer. A line is a call and the answer that is due:
 * "step 0 2501 = 1". The words yes, no, none and refused stand for 1, 0, -1 and -2147483648, and
 * least and most for the ends of int; what is behind a '#' is left out.
 */
final class Script {

    /** What an object answers behind its 512th call is free, so no test may look at it. */
    private static final int MOST_CALLS = 512;
    /** Far above what all tests of a class need: a call that doesn't end is a fault as well. */
    private static final int MOST_SECONDS = 180;
    /** Stands for the answer of a call that throws; it is due nowhere. */
    private static final int THROWN = -777777777;
    private static final Map<Class<?>, Map<String, Method>> METHODS = new HashMap<>();

    private final String title;
    private final WordsBeside object = new WordsBeside();
    private int calls = 0;
    private static int wrong = 0;

    static {
        Thread watch = new Thread(Script::stopAtLast);
        watch.setDaemon(true);
        watch.start();
    }

    Script(String title) {
        this.title = title;
    }

    static void hold(String title, String lines) {
        new Script(title).hold(lines);
    }

    /** For the end of each test's main method. */
    static void end() {
        System.out.println(wrong == 0 ? "all answers are as due" : wrong + " answers are not as due");
        if (wrong != 0) {
            System.exit(1);
        }
    }

    Script hold(String lines) {
        for (String line : lines.split("\n")) {
            String told = line.replaceFirst("#.*", "").trim();
            if (!told.isEmpty()) {
                holdLine(told);
            }
        }
        return this;
    }

    /** Holds a line once for each value, which stands where the line has a '*'. */
    Script each(String line, int... values) {
        for (int value : values) {
            holdLine(line.replace("*", String.valueOf(value)));
        }
        return this;
    }

    private void holdLine(String line) {
        String[] sides = line.split("=");
        due(title + ": " + sides[0].trim(), answer(sides[0]), number(sides[1].trim()));
    }

    /** What a call answers, with no word on what is due. */
    int answer(String told) {
        calls++;
        if (calls > MOST_CALLS) {
            fault(title + ": call " + calls + " is one too many");
        }
        String[] words = told.trim().split(" +");
        int[] arguments = new int[words.length - 1];
        for (int i = 0; i < arguments.length; i++) {
            arguments[i] = number(words[i + 1]);
        }
        return call(object, words[0], arguments);
    }

    static void due(String what, int got, int want) {
        if (got != want) {
            fault(what + " answered " + got + ", due is " + want);
        }
    }

    private static void stopAtLast() {
        try {
            Thread.sleep(MOST_SECONDS * 1000L);
        } catch (InterruptedException e) {
            return;
        }
        System.out.println("no end within " + MOST_SECONDS + " seconds");
        Runtime.getRuntime().halt(1);
    }

    static void fault(String what) {
        wrong++;
        System.out.println(what);
    }

    static int call(Object object, String name, int... arguments) {
        Object[] boxed = new Object[arguments.length];
        for (int i = 0; i < boxed.length; i++) {
            boxed[i] = arguments[i];
        }
        try {
            Object answer = method(object.getClass(), name).invoke(object, boxed);
            return answer instanceof Boolean ? ((Boolean) answer ? 1 : 0) : (Integer) answer;
        } catch (InvocationTargetException e) {
            fault(name + Arrays.toString(arguments) + " throws " + e.getCause());
            return THROWN;
        } catch (ReflectiveOperationException e) {
            throw new IllegalStateException(name, e);
        }
    }

    private static int number(String word) {
        switch (word) {
            case "yes":
                return 1;
            case "no":
                return 0;
            case "none":
                return -1;
            case "refused":
            case "least":
                return Integer.MIN_VALUE;
            case "most":
                return Integer.MAX_VALUE;
            default:
                return Integer.parseInt(word);
        }
    }

    private static Method method(Class<?> owner, String name) {
        return METHODS.computeIfAbsent(owner, Script::publicMethods).get(name);
    }

    private static Map<String, Method> publicMethods(Class<?> owner) {
        Map<String, Method> found = new HashMap<>();
        for (Method method : owner.getDeclaredMethods()) {
            if (Modifier.isPublic(method.getModifiers())) {
                found.put(method.getName(), method);
            }
        }
        return found;
    }
}
