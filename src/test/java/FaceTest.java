import java.io.IOException;
import java.lang.reflect.Constructor;
import java.lang.reflect.Field;
import java.lang.reflect.Method;
import java.lang.reflect.Modifier;
import java.nio.file.Files;
import java.nio.file.Path;
import java.util.Arrays;
import java.util.Set;
import java.util.TreeSet;
import java.util.regex.Pattern;

/** The public face, and those rules of LANGUAGE.md that can be seen from outside. */
public final class FaceTest {

    private static final Set<String> FACE = new TreeSet<>(Arrays.asList(
            "boolean clear(int)", "int step(int,int)", "boolean change(int,int,int)",
            "int run(int,int,int)", "int keep()", "int was(int,int,int,int)",
            "int claim(int,int,int,int)", "int told(int,int)", "int denied(int)", "int mend(int,int)",
            "boolean mended(int)", "boolean mark(int)", "int listed(int)", "int missing(int)",
            "int count(int)"));

    private static final String[] RULED_OUT = {
        "\\b(throw|throws|try|catch|synchronized|assert|import|package|native|var|volatile)\\b", "->", "::",
        "\\bpublic static (?!final)", "\\bstatic \\{", "Exact\\b", "\\bprotected\\b"};

    private static int wrong = 0;

    public static void main(String[] args) throws IOException {
        face();
        source(Files.readString(Path.of("src/main/java/WordsBeside.java")));
        System.out.println(wrong == 0 ? "the face is as due" : wrong + " faults");
        if (wrong != 0) {
            System.exit(1);
        }
    }

    private static void face() {
        Set<String> found = new TreeSet<>();
        Set<String> names = new TreeSet<>();
        for (Method method : WordsBeside.class.getDeclaredMethods()) {
            if (Modifier.isPublic(method.getModifiers())) {
                found.add(told(method));
                names.add(method.getName());
            }
        }
        demand(found.equals(FACE), "the public methods are " + found);
        for (Method method : WordsBeside.class.getDeclaredMethods()) {
            boolean open = Modifier.isPublic(method.getModifiers());
            demand(open || Modifier.isPrivate(method.getModifiers()), "not private: " + method);
            demand(open || !names.contains(method.getName()), "a public one's name: " + method);
        }
        for (Field field : WordsBeside.class.getDeclaredFields()) {
            boolean constant = field.getName().equals("NONE");
            demand(constant == Modifier.isPublic(field.getModifiers()), "visible: " + field);
            demand(constant || Modifier.isPrivate(field.getModifiers()), "not private: " + field);
            demand(!Modifier.isStatic(field.getModifiers()) || Modifier.isFinal(field.getModifiers()),
                    "static but not final: " + field);
        }
        Constructor<?>[] constructors = WordsBeside.class.getDeclaredConstructors();
        demand(constructors.length == 1 && Modifier.isPublic(constructors[0].getModifiers())
                && constructors[0].getParameterCount() == 0, "the constructor");
        demand(Modifier.isFinal(WordsBeside.class.getModifiers()), "the class isn't final");
        for (Class<?> inside : WordsBeside.class.getDeclaredClasses()) {
            demand(Modifier.isStatic(inside.getModifiers()), "not static: " + inside);
        }
    }

    private static String told(Method method) {
        StringBuilder text = new StringBuilder(method.getReturnType() + " " + method.getName() + "(");
        for (int i = 0; i < method.getParameterCount(); i++) {
            text.append(i == 0 ? "" : ",").append(method.getParameterTypes()[i]);
        }
        return text.append(")").toString();
    }

    private static void source(String text) {
        String code = text.replaceAll("(?s)/\\*.*?\\*/", "").replaceAll("//[^\n]*", "");
        for (String pattern : RULED_OUT) {
            demand(!Pattern.compile(pattern).matcher(code).find(), "ruled out: " + pattern);
        }
    }

    private static void demand(boolean holds, String fault) {
        if (!holds) {
            wrong++;
            System.out.println(fault);
        }
    }
}
