import java.lang.reflect.Constructor;
import java.lang.reflect.Field;
import java.lang.reflect.Method;
import java.lang.reflect.Modifier;
import java.nio.file.Files;
import java.nio.file.Path;
import java.util.ArrayList;
import java.util.HashSet;
import java.util.List;
import java.util.Map;
import java.util.Set;
import java.util.TreeMap;
import java.util.TreeSet;
import java.util.regex.Matcher;
import java.util.regex.Pattern;

/** The document's face, member by member, and the rules of LANGUAGE.md that a reader of the class can count. */
final class FaceTest {
    private static final Set<String> METHODS = Set.of(
        "append(int)", "clearBuffer()", "errorPosition()", "addFromBuffer()", "add(int,int)", "replace(int,int,int)",
        "removeLast()", "lose(int)", "setLeeway(int,int)", "setCurrent(int,int)", "pegCount()", "pointOf(int)",
        "speedOf(int)", "speedTowards(int)", "setFix(int,int,int)", "removeFix(int)", "reckonedNorth(int)",
        "reckonedEast(int)", "correctedNorth(int)", "correctedEast(int)", "distance(int,int)", "bearing(int,int)",
        "findLost(int)", "digest()");
    private static final Set<String> CONSTANTS = Set.of("OUT_OF_RANGE", "NO_SUCH_PEG", "NO_SUCH_MOMENT", "FULL",
        "INVALID_PEG", "WRONG_STATE", "NOTHING");
    private static final Set<Class<?>> STATIC_TYPES = Set.of(int.class, long.class, boolean.class, char.class,
        String.class, int[].class, long[].class, char[].class, byte[].class);
    private static final List<String> RULED_OUT = List.of("\\bthrow\\b", "\\btry\\b", "\\bcatch\\b", "\\bsynchronized\\b",
        "\\bassert\\b", "\\bimport\\b", "\\bpackage\\b", "->", "::", "\\bprotected\\b", "\\bstatic \\{", "\\bhashCode\\b",
        "\\btoString\\b", "Exact\\b", "\\bSystem\\.(?!arraycopy)", "\\bRandom\\b", "\\bThread\\b", "[^\\x00-\\x7f]");

    private static final int DEEPEST = 8;
    private static final Pattern METHOD = Pattern.compile("(?ms)^    (?:public|private) [^=;{]*?(\\w+)\\([^)]*\\) \\{$(.*?)^    }$");
    private static final Pattern CALL = Pattern.compile("\\b(?!if\\b|for\\b|while\\b|return\\b)(\\w+)\\(");

    private static final Check check = new Check("FaceTest");

    public static void main(String[] args) throws Exception {
        check.about("face");
        classes();
        methods();
        constructors();
        fields();
        source(Files.readString(Path.of("src/main/java/TraverseBoard.java")));
        check.end();
    }

    private static void classes() {
        int modifiers = TraverseBoard.class.getModifiers();
        check.holds("the class is not public and final", Modifier.isPublic(modifiers) && Modifier.isFinal(modifiers));
        check.holds("the class has a package", TraverseBoard.class.getPackageName().isEmpty());
        check.holds("the class extends another", TraverseBoard.class.getSuperclass() == Object.class);
        for (Class<?> inside : TraverseBoard.class.getDeclaredClasses()) {
            check.holds(inside + " is not static", Modifier.isStatic(inside.getModifiers()));
        }
    }

    private static void methods() {
        Set<String> found = new TreeSet<>();
        Set<String> publicNames = new HashSet<>();
        Set<String> privateNames = new HashSet<>();
        for (Method method : TraverseBoard.class.getDeclaredMethods()) {
            check.holds(method + " takes more than seven parameters", method.getParameterCount() <= 7);
            if (Modifier.isPrivate(method.getModifiers())) {
                privateNames.add(method.getName());
                continue;
            }
            check.holds(method + " is not public, or static, or returns no long", Modifier.isPublic(method.getModifiers())
                && !Modifier.isStatic(method.getModifiers()) && method.getReturnType() == long.class);
            publicNames.add(method.getName());
            List<String> types = new ArrayList<>();
            for (Class<?> type : method.getParameterTypes()) {
                types.add(type.getName());
            }
            found.add(method.getName() + "(" + String.join(",", types) + ")");
        }
        check.holds("the methods are " + found, found.equals(METHODS));
        privateNames.retainAll(publicNames);
        check.holds("private and public at once: " + privateNames, privateNames.isEmpty());
    }

    private static void constructors() {
        Constructor<?>[] all = TraverseBoard.class.getDeclaredConstructors();
        check.due("the number of constructors", all.length, 1);
        check.holds("the constructor is not public", Modifier.isPublic(all[0].getModifiers()));
        check.due("the constructor's parameters", all[0].getParameterCount(), 0);
    }

    private static void fields() {
        Set<String> found = new TreeSet<>();
        int own = 0;
        for (Field field : TraverseBoard.class.getDeclaredFields()) {
            int modifiers = field.getModifiers();
            if (Modifier.isStatic(modifiers)) {
                check.holds(field + " is not final", Modifier.isFinal(modifiers));
                check.holds(field + " has a type that no static may have", STATIC_TYPES.contains(field.getType()));
            } else {
                own++;
                check.holds(field + " is not private", Modifier.isPrivate(modifiers));
            }
            if (Modifier.isPublic(modifiers)) {
                check.holds(field + " is no long constant", Modifier.isStatic(modifiers) && field.getType() == long.class);
                found.add(field.getName());
            } else {
                check.holds(field + " is seen from outside", Modifier.isPrivate(modifiers));
            }
        }
        check.holds("the constants are " + found, found.equals(CONSTANTS));
        check.holds("the class has " + own + " fields", own <= 20);
    }

    private static void source(String text) {
        check.about("rules of the language");
        for (String ruledOut : RULED_OUT) {
            check.holds("the source has " + ruledOut, !Pattern.compile(ruledOut).matcher(text).find());
        }
        Map<String, String> bodies = bodies(text);
        check.due("the methods and the constructor that were read", bodies.size(), TraverseBoard.class.getDeclaredMethods().length + 1);
        for (String name : bodies.keySet()) {
            check.holds(name + " has more than sixty lines", bodies.get(name).lines().count() <= 60);
            int deep = depth(name, bodies, 0);
            check.holds("from " + name + " calls go " + deep + " deep", deep <= DEEPEST);
        }
    }

    /** The methods and the constructor by their names; no two of them share one. */
    private static Map<String, String> bodies(String text) {
        Map<String, String> bodies = new TreeMap<>();
        Matcher matcher = METHOD.matcher(text);
        while (matcher.find()) {
            String before = bodies.put(matcher.group(1), matcher.group(2));
            check.holds("two methods are called " + matcher.group(1), before == null);
        }
        return bodies;
    }

    /** How many calls stand open at once, this one and one of the library included. */
    private static int depth(String name, Map<String, String> bodies, int above) {
        if (!bodies.containsKey(name) || above > DEEPEST) {
            return 1;
        }
        int deepest = 0;
        Matcher matcher = CALL.matcher(bodies.get(name));
        while (matcher.find()) {
            deepest = Math.max(deepest, depth(matcher.group(1), bodies, above + 1));
        }
        return 1 + deepest;
    }
}
