import java.lang.reflect.Constructor;
import java.lang.reflect.Field;
import java.lang.reflect.Method;
import java.lang.reflect.Modifier;
import java.nio.file.Files;
import java.nio.file.Path;
import java.util.Arrays;
import java.util.Set;
import java.util.TreeSet;
import java.util.regex.Matcher;
import java.util.regex.Pattern;

/** The public face is the document's and no more, and the source keeps to the rules of LANGUAGE.md that a scan can see. */
public final class FaceTest {
    private static final String[] FACE = {
        "int type(long,int)", "int clear()", "int pattern(int)", "int lay(int)", "int drops(int,int)", "int oil(int)",
        "int ball(int,int,int)", "int shot(int,int,int,int)", "int came(int)", "int tried(int,int,int,int)",
        "int fall(int,int,int,int)", "int roll(int)", "int game(int)", "int anew()", "int scatter(int,int,int,int)",
        "int mean(int,int,int,int,int)", "int best(int,int,int)", "int thrower(int,int,int,int,int)",
        "int stands(int,int)", "int evening(int)", "int would(int,int)", "int order(int,int)",
        "int clue(int,int,int,int,int)", "int fits()", "int trunk(int,int,int)", "int spare(int,int,int)",
        "int worth(int)", "int keep(int)", "int back(int)", "int count(int)", "long trace()"};
    private static final String[] CONSTANTS = {"BAD", "STATE", "FULL", "NONE", "NO"};
    private static final String[] FORBIDDEN = {
        "\\bthrow\\b", "\\btry\\b", "\\bcatch\\b", "\\bsynchronized\\b", "\\bassert\\b", "->", "::", "\\bimport\\b",
        "\\bpackage\\b", "\\bprotected\\b", "\\bvolatile\\b", "\\bnative\\b", "\\bvar\\b", "Exact\\b", "\\bObject\\b",
        "\\.equals\\(", "hashCode", "toString", "System\\.(?!arraycopy)", "Math\\.random", "@", "\\bstatic\\s*\\{"};
    private static int wrong = 0;

    private static void due(String what, Object got, Object want) {
        if (!got.equals(want)) {
            wrong++;
            System.out.println(what + " is " + got + ", due is " + want);
        }
    }

    private static String told(Method m) {
        StringBuilder b = new StringBuilder(m.getReturnType().getName()).append(' ').append(m.getName()).append('(');
        for (int k = 0; k < m.getParameterCount(); k++) {
            b.append(k > 0 ? "," : "").append(m.getParameterTypes()[k].getName());
        }
        return b.append(')').toString();
    }

    private static void face() {
        due("public final", OilLane.class.getModifiers(), Modifier.PUBLIC | Modifier.FINAL);
        Set<String> open = new TreeSet<>();
        Set<String> names = new TreeSet<>();
        for (Method m : OilLane.class.getDeclaredMethods()) {
            if (!Modifier.isPrivate(m.getModifiers())) {
                open.add(told(m));
                names.add(m.getName());
                due(told(m) + " modifiers", m.getModifiers(), Modifier.PUBLIC);
            }
        }
        due("the methods", open, new TreeSet<>(Arrays.asList(FACE)));
        for (Method m : OilLane.class.getDeclaredMethods()) {
            boolean hidden = Modifier.isPrivate(m.getModifiers());
            due("a private " + m.getName(), hidden && names.contains(m.getName()), false);
        }
        Set<String> fields = new TreeSet<>();
        for (Field f : OilLane.class.getDeclaredFields()) {
            if (!Modifier.isPrivate(f.getModifiers())) {
                fields.add(f.getName());
            }
            boolean loose = Modifier.isStatic(f.getModifiers()) && !Modifier.isFinal(f.getModifiers());
            due("a static field that changes: " + f.getName(), loose, false);
        }
        due("the constants", fields, new TreeSet<>(Arrays.asList(CONSTANTS)));
        due("constructors", OilLane.class.getDeclaredConstructors().length, 1);
        for (Constructor<?> c : OilLane.class.getDeclaredConstructors()) {
            due("its parameters", c.getParameterCount(), 0);
        }
        due("values", Arrays.asList(OilLane.BAD, OilLane.STATE, OilLane.FULL, OilLane.NONE, OilLane.NO),
            Arrays.asList(-1, -2, -3, -9, -1000000));
    }

    private static void classesInside() {
        Class<?>[] inside = OilLane.class.getDeclaredClasses();
        due("some twelve classes", inside.length <= 12, true);
        for (Class<?> c : inside) {
            due(c.getName() + " is static", Modifier.isStatic(c.getModifiers()), true);
            due(c.getName() + " is not public", Modifier.isPublic(c.getModifiers()), false);
            for (Method m : c.getDeclaredMethods()) {
                due(m + " has at most seven parameters", m.getParameterCount() <= 7, true);
            }
        }
    }

    private static void source() throws java.io.IOException {
        String text = Files.readString(Path.of("src/main/java/OilLane.java"));
        String code = text.replaceAll("(?s)/\\*.*?\\*/", "").replaceAll("//[^\n]*", "");
        for (String word : FORBIDDEN) {
            Matcher m = Pattern.compile(word).matcher(code);
            due("the source has " + word, m.find(), false);
        }
        for (int k = 0; k < text.length(); k++) {
            due("sign " + k, text.charAt(k) < 128, true);
        }
    }

    public static void main(String[] args) throws java.io.IOException {
        face();
        classesInside();
        source();
        System.out.println(wrong == 0 ? "the face is as due" : wrong + " things are not as due");
        if (wrong != 0) {
            System.exit(1);
        }
    }
}
