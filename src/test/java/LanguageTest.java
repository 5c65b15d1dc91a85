import java.lang.reflect.Constructor;
import java.lang.reflect.Field;
import java.lang.reflect.Method;
import java.lang.reflect.Modifier;
import java.nio.file.Files;
import java.nio.file.Path;
import java.util.Set;
import java.util.TreeSet;
import java.util.regex.Pattern;

/** The face of the class, and those rules of LANGUAGE.md that a look at the text can tell. */
public final class LanguageTest {
    private static final Set<String> FACE = new TreeSet<>(Set.of(
        "int line(int,int)", "int rule(int,int)", "int faded(int,int)", "int change(int,boolean)", "int echo(int)",
        "int tick(int)", "int about(int,int)", "int longest()", "int event(int,int)", "int again(int,int,int,int)",
        "int mark(int,int)", "int marks(int)", "int way(int,int,boolean)", "int bind(int,int,int)",
        "int flood(boolean)", "int own(int,int)", "int echoes(int)", "int count(int)", "long digest()"));
    private static final Set<String> CONSTANTS = Set.of("NONE", "BAD", "NO", "FULL");
    private static final String[] RULED_OUT = {"throw", "throws", "try", "catch", "finally", "synchronized", "assert",
        "import", "package", "protected", "equals", "hashCode", "toString", "double", "float", "volatile", "native"};
    private static final int MOST_METHOD_LINES = 60;

    private static int wrong = 0;

    private static void hold(boolean holds, String what) {
        if (!holds) {
            wrong++;
            System.out.println("not so: " + what);
        }
    }

    public static void main(String[] args) throws Exception {
        checkFace();
        for (Class<?> inside : CalmLines.class.getDeclaredClasses()) {
            checkInside(inside);
        }
        checkText(Files.readString(Path.of(args.length > 0 ? args[0] : "src/main/java/CalmLines.java")));
        System.out.println(wrong == 0 ? "the language is kept to" : wrong + " rules are broken");
        if (wrong != 0) {
            System.exit(1);
        }
    }

    private static String face(Method m) {
        StringBuilder text = new StringBuilder(m.getReturnType().getSimpleName() + " " + m.getName() + "(");
        for (int i = 0; i < m.getParameterCount(); i++) {
            text.append(i == 0 ? "" : ",").append(m.getParameterTypes()[i].getSimpleName());
        }
        return text.append(")").toString();
    }

    private static void checkFace() {
        Class<?> c = CalmLines.class;
        hold(Modifier.isPublic(c.getModifiers()) && Modifier.isFinal(c.getModifiers()), "public and final");
        Set<String> found = new TreeSet<>();
        for (Method m : c.getDeclaredMethods()) {
            if (Modifier.isPublic(m.getModifiers())) {
                found.add(face(m));
            } else {
                hold(Modifier.isPrivate(m.getModifiers()), m.getName() + " is private");
                checkName(m);
            }
        }
        hold(found.equals(FACE), "the face is " + FACE + ", found is " + found);
        Constructor<?>[] makers = c.getDeclaredConstructors();
        hold(makers.length == 1 && makers[0].getParameterCount() == 0, "one constructor, without parameters");
        for (Field f : c.getDeclaredFields()) {
            boolean constant = CONSTANTS.contains(f.getName());
            hold(constant == Modifier.isPublic(f.getModifiers()), f.getName() + " is public if it is of the face");
            hold(constant || Modifier.isPrivate(f.getModifiers()), f.getName() + " is private");
            hold(!Modifier.isStatic(f.getModifiers()) || Modifier.isFinal(f.getModifiers()), f.getName() + " is final");
        }
    }

    private static void checkName(Method m) {
        for (String one : FACE) {
            hold(!one.contains(" " + m.getName() + "("), m.getName() + " bears no name of the face");
        }
    }

    private static void checkInside(Class<?> c) {
        int fields = 0;
        hold(Modifier.isStatic(c.getModifiers()), c.getName() + " is static");
        for (Method m : c.getDeclaredMethods()) {
            checkName(m);
            hold(m.getParameterCount() <= 7, m.getName() + " takes at most seven parameters");
        }
        for (Field f : c.getDeclaredFields()) {
            boolean still = Modifier.isStatic(f.getModifiers());
            hold(!still || Modifier.isFinal(f.getModifiers()), f.getName() + " is final");
            fields += still ? 0 : 1;
        }
        hold(fields <= 20, c.getName() + " has some twenty fields at most");
    }

    private static void checkText(String text) {
        String code = text.replaceAll("(?s)/\\*.*?\\*/", "").replaceAll("//[^\n]*", "");
        for (String word : RULED_OUT) {
            hold(!Pattern.compile("\\b" + word + "\\b").matcher(code).find(), "no '" + word + "'");
        }
        hold(!code.contains("->") && !code.contains("::"), "no lambda, no method reference");
        hold(text.chars().allMatch(c -> c < 128), "plain characters");
        checkLengths(code);
    }

    /** A method ends with the first line that closes at the depth at which it began. */
    private static void checkLengths(String code) {
        String[] lines = code.split("\n");
        for (int i = 0; i < lines.length; i++) {
            String begin = lines[i];
            if (begin.endsWith(") {") && Pattern.matches("\\s+[\\w\\[\\] ]+\\(.*", begin)) {
                String end = begin.replaceAll("\\S.*", "") + "}";
                int last = i;
                while (last < lines.length && !lines[last].equals(end)) {
                    last++;
                }
                hold(last - i < MOST_METHOD_LINES, begin.trim() + " is short");
            }
        }
    }
}
