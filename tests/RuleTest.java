import java.lang.reflect.Field;
import java.lang.reflect.Modifier;
import java.nio.file.Files;
import java.nio.file.Path;
import java.util.ArrayList;
import java.util.List;
import java.util.Set;
import java.util.TreeSet;
import java.util.regex.Matcher;
import java.util.regex.Pattern;

/** Rules of LANGUAGE.md that ask for more than a word's absence: lengths, depths, fields, the library, what is made where. */
public final class RuleTest {
    private static final int LINES = 60, DEPTH = 8, FIELDS = 20;
    private static final Set<String> LIBRARY = Set.of(
        "Math.max", "Math.min", "Integer.bitCount", "Integer.compare", "System.arraycopy", "length", "charAt");
    private static final Set<String> NO_CALL = Set.of("if", "for", "while", "switch", "return", "case");
    private static final Set<Class<?>> CONSTANT_TYPES = Set.of(int.class, long.class, boolean.class, char.class,
        String.class, int[].class, long[].class, char[].class, byte[].class);
    private static final Set<Class<?>> FIELD_TYPES = Set.of(int.class, long.class, boolean.class, int[].class, boolean[].class);
    private static int wrong = 0;

    /** A method or a constructor as the source has it. */
    private record Body(String owner, String name, String text, int lines) {
        boolean makes() {
            return owner.equals(name);
        }
    }

    private final String code;
    private final List<Body> bodies = new ArrayList<>();

    private RuleTest(String source) {
        code = source.replaceAll("(?s)/\\*.*?\\*/", "").replaceAll("//[^\n]*", "")
            .replaceAll("'[^']*'", "' '").replaceAll("\"[^\"]*\"", "\"\"");
        findBodies();
    }

    private static void due(String what, boolean holds) {
        if (!holds) {
            wrong++;
            System.out.println("does not hold: " + what);
        }
    }

    /** What stands between the braces of a class is a class, a body or rows that are written out. */
    private void findBodies() {
        List<String> open = new ArrayList<>();
        int from = 0;
        for (int at = 0; at < code.length(); at++) {
            char c = code.charAt(at);
            if (c == '{') {
                String head = code.substring(from, at).trim();
                Matcher inside = Pattern.compile("class (\\w+)$").matcher(head);
                if (inside.find()) {
                    open.add(inside.group(1));
                } else {
                    int end = closing(at);
                    Matcher named = Pattern.compile("(\\w+)\\([^=]*\\)$").matcher(head);
                    if (named.find()) {
                        String text = code.substring(at + 1, end);
                        int lines = (int) text.chars().filter(x -> x == '\n').count() + 1;
                        bodies.add(new Body(open.get(open.size() - 1), named.group(1), text, lines));
                    }
                    at = end;
                }
                from = at + 1;
            } else if (c == '}') {
                open.remove(open.size() - 1);
                from = at + 1;
            } else if (c == ';') {
                from = at + 1;
            }
        }
    }

    private int closing(int at) {
        int deep = 0;
        for (int k = at; k < code.length(); k++) {
            deep += code.charAt(k) == '{' ? 1 : code.charAt(k) == '}' ? -1 : 0;
            if (deep == 0) {
                return k;
            }
        }
        return code.length() - 1;
    }

    private List<Body> called(Body by, String whose, String name) {
        List<Body> found = new ArrayList<>();
        for (Body b : bodies) {
            boolean own = b.owner.equals(by.owner);
            boolean reached = whose.isEmpty() ? own || b.owner.equals("OilLane") || b.makes() : !own;
            if (b.name.equals(name) && reached) {
                found.add(b);
            }
        }
        return found;
    }

    /** The longest chain of calls from a body on, the library's own too; a body that asks itself carries its depth. */
    private int depth(Body b, List<Body> open) {
        due("calls that come back to " + b.name + ": " + open.size(), open.size() < 40);
        int most = 0;
        Matcher m = Pattern.compile("([\\w\\]]+\\.)?(\\w+)\\(").matcher(b.text);
        while (m.find() && open.size() < 40) {
            String whose = m.group(1) == null ? "" : m.group(1);
            String name = m.group(2);
            if (name.equals(b.name) && whose.isEmpty()) {
                due(name + " asks itself with its depth", b.text.contains("depth + 1") && b.text.contains("depth >="));
                continue;
            }
            boolean library = LIBRARY.contains(name) || LIBRARY.contains(whose + name);
            List<Body> next = called(b, whose, name);
            boolean plain = b.text.substring(0, m.start()).endsWith("new ") && code.contains("class " + name + " ");
            due(b.name + " calls " + whose + name, library || !next.isEmpty() || plain || NO_CALL.contains(name));
            most = Math.max(most, library ? 1 : 0);
            for (Body n : next) {
                List<Body> on = new ArrayList<>(open);
                on.add(b);
                most = Math.max(most, depth(n, on));
            }
        }
        return most + 1;
    }

    private void bodiesHold() {
        due("the face's 31 methods and more are found: " + bodies.size(), bodies.size() > 31);
        Set<String> face = new TreeSet<>();
        for (java.lang.reflect.Method m : OilLane.class.getDeclaredMethods()) {
            if (Modifier.isPublic(m.getModifiers())) {
                face.add(m.getName());
            }
        }
        for (Body b : bodies) {
            String what = b.owner + "." + b.name;
            due(what + " has " + b.lines + " lines", b.lines <= LINES);
            due(what + " makes no object behind the constructor", b.makes() || !b.text.matches("(?s).*\\bnew\\b.*"));
            due(what + " joins no texts by +", !b.text.matches("(?s).*(\"\\s*\\+|\\+\\s*\").*"));
            due(what + " bears no public name", b.owner.equals("OilLane") || !face.contains(b.name));
            int deep = depth(b, new ArrayList<>());
            due(what + " goes " + deep + " deep", deep <= DEPTH);
        }
    }

    private static void fieldsHold(Class<?> owner) {
        int own = 0;
        for (Field f : owner.getDeclaredFields()) {
            String what = owner.getName() + "." + f.getName();
            if (Modifier.isStatic(f.getModifiers())) {
                due(what + " is final", Modifier.isFinal(f.getModifiers()));
                due(what + " is a constant", CONSTANT_TYPES.contains(f.getType()));
            } else {
                own++;
                Class<?> type = f.getType().isArray() ? f.getType().getComponentType() : f.getType();
                boolean inside = type.getEnclosingClass() == OilLane.class;
                due(what + " has a type of rule 3", inside || FIELD_TYPES.contains(f.getType()));
            }
        }
        due(owner.getName() + " has " + own + " fields", own <= FIELDS);
    }

    public static void main(String[] args) throws java.io.IOException {
        new RuleTest(Files.readString(Path.of("src/main/java/OilLane.java"))).bodiesHold();
        fieldsHold(OilLane.class);
        for (Class<?> inside : OilLane.class.getDeclaredClasses()) {
            fieldsHold(inside);
            due(inside.getName() + " is no class of a class inside", inside.getDeclaredClasses().length == 0);
        }
        System.out.println(wrong == 0 ? "the rules hold" : wrong + " rules do not hold");
        if (wrong != 0) {
            System.exit(1);
        }
    }
}
