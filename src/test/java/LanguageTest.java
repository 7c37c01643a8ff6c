import java.io.IOException;
import java.lang.reflect.Constructor;
import java.lang.reflect.Field;
import java.lang.reflect.Method;
import java.lang.reflect.Modifier;
import java.nio.charset.StandardCharsets;
import java.nio.file.Files;
import java.nio.file.Path;
import java.util.ArrayList;
import java.util.Arrays;
import java.util.HashSet;
import java.util.LinkedHashMap;
import java.util.List;
import java.util.Map;
import java.util.Set;
import java.util.TreeSet;
import java.util.regex.Matcher;
import java.util.regex.Pattern;

/** The face of the document and, as far as a look at the words can tell, the rules of LANGUAGE.md. */
public final class LanguageTest {
    private static final String PROGRAM = "src/main/java/TurningDishes.java";
    private static final String[] FACE = {
        "ahead(int,int)", "as(int,int)", "ask(int,int)", "change(int,int)", "copy(int,int,int,int,int)",
        "count(int)", "dish(int,int)", "dishAhead(int,int)", "drop(int)", "fault()", "feed(long,int)",
        "fill(int,int)", "guest(int,int)", "guestAhead(int,int)", "hungry(int)", "image(int)", "kind(int)",
        "laid(int,int)", "last(int,int)", "lay(int,int)", "minutes(int)", "rest()", "restore(int)",
        "row(int,int,int)", "seated(int,int,int)", "served()", "set(int,int,int)", "status()", "table()",
        "trace(int)", "turn(int)", "undo()", "wanted(int,int,int,int)"};

    /** Methods that stand open at once, the call of the face with them. */
    private static final int DEEPEST = 8;

    private LanguageTest() {
    }

    public static void main(String[] args) throws IOException {
        face();
        classesInside();
        String code = withoutComments(Files.readString(Path.of(PROGRAM), StandardCharsets.US_ASCII));
        words(code);
        calls(code);
        Check.end();
    }

    private static void face() {
        Class<?> c = TurningDishes.class;
        Check.holds("public and final", c.getModifiers() == (Modifier.PUBLIC | Modifier.FINAL));
        Set<String> told = new TreeSet<>();
        for (Method m : c.getDeclaredMethods()) {
            if (!Modifier.isPrivate(m.getModifiers())) {
                Check.holds(m + " is public and answers an int", m.getModifiers() == Modifier.PUBLIC
                        && m.getReturnType() == int.class);
                StringBuilder parameters = new StringBuilder();
                for (Class<?> p : m.getParameterTypes()) {
                    parameters.append(parameters.length() == 0 ? "" : ",").append(p);
                }
                told.add(m.getName() + "(" + parameters + ")");
            }
        }
        Check.holds("the methods of the face: " + told, told.equals(new TreeSet<>(Arrays.asList(FACE))));
        Constructor<?>[] constructors = c.getDeclaredConstructors();
        Check.holds("one public constructor", constructors.length == 1
                && constructors[0].getParameterCount() == 0 && Modifier.isPublic(constructors[0].getModifiers()));
        Set<String> constants = new TreeSet<>();
        for (Field f : c.getDeclaredFields()) {
            if (!Modifier.isPrivate(f.getModifiers())) {
                constants.add(f.getName());
            }
        }
        Check.holds("the constants of the face", constants.equals(Set.of("NONE", "BAD", "STATE", "FULL")));
    }

    private static void classesInside() {
        Class<?>[] inside = TurningDishes.class.getDeclaredClasses();
        Check.holds("some twelve classes at most", inside.length <= 12);
        Set<String> faceNames = new HashSet<>();
        for (String method : FACE) {
            faceNames.add(method.substring(0, method.indexOf('(')));
        }
        List<Class<?>> all = new ArrayList<>(Arrays.asList(inside));
        all.add(TurningDishes.class);
        for (Class<?> c : all) {
            Check.holds(c + " is static", c == TurningDishes.class || Modifier.isStatic(c.getModifiers()));
            int fields = 0;
            for (Field f : c.getDeclaredFields()) {
                fields += Modifier.isStatic(f.getModifiers()) ? 0 : 1;
                Check.holds(f + ", if static, is final", !Modifier.isStatic(f.getModifiers())
                        || Modifier.isFinal(f.getModifiers()));
            }
            Check.holds(c + " has some twenty fields at most", fields <= 20);
            for (Method m : c.getDeclaredMethods()) {
                Check.holds(m + " has seven parameters at most", m.getParameterCount() <= 7);
                Check.holds(m + " bears no name of the face", c == TurningDishes.class
                        && Modifier.isPublic(m.getModifiers()) || !faceNames.contains(m.getName()));
            }
        }
    }

    private static void words(String code) {
        String[] not = {"throw", "throws", "try", "catch", "finally", "synchronized", "assert", "import", "package",
            "lambda", "float", "double", "Exception", "Object", "equals", "hashCode", "System\\.(?!arraycopy)",
            "\\w+Exact", "yield", "var", "volatile", "transient", "protected", "Integer", "Long"};
        for (String word : not) {
            Check.holds("no " + word, !Pattern.compile("\\b" + word + "\\b").matcher(code).find());
        }
        Check.holds("no lambda, no method reference", !code.contains("->") && !code.contains("::"));
        Check.holds("no texts joined by +", !Pattern.compile("\"\\s*\\+|\\+\\s*\"").matcher(code).find());
        Check.holds("no unbounded loop", !Pattern.compile("while\\s*\\(\\s*true|for\\s*\\(.*;\\s*;").matcher(code).find());
    }

    /** No method comes back to itself, none is long, and no way from the face goes too deep. */
    private static void calls(String code) {
        Map<String, String> bodies = bodies(code);
        Check.holds("methods were found", bodies.size() > FACE.length);
        Map<String, Set<String>> called = new LinkedHashMap<>();
        for (Map.Entry<String, String> body : bodies.entrySet()) {
            Check.holds(body.getKey() + " is short", body.getValue().lines().count() <= 60);
            Check.holds(body.getKey() + " makes no object: constructors alone do",
                    !Pattern.compile("\\bnew\\b").matcher(body.getValue()).find());
            Set<String> names = new TreeSet<>();
            Matcher call = Pattern.compile("\\b([a-zA-Z0-9]+)\\(").matcher(body.getValue());
            while (call.find()) {
                if (bodies.containsKey(call.group(1))) {
                    names.add(call.group(1));
                }
            }
            called.put(body.getKey(), names);
        }
        for (String name : called.keySet()) {
            int deep = depth(name, called, 1);
            Check.holds(name + " goes " + deep + " deep", deep <= DEEPEST);
        }
    }

    private static int depth(String name, Map<String, Set<String>> called, int above) {
        if (above > 2 * DEEPEST) {
            return above;
        }
        int deepest = above;
        for (String next : called.get(name)) {
            deepest = Math.max(deepest, depth(next, called, above + 1));
        }
        return deepest;
    }

    /** The bodies of all methods by name; those of one name are put together. */
    private static Map<String, String> bodies(String code) {
        Map<String, String> bodies = new LinkedHashMap<>();
        Matcher head = Pattern.compile("(?m)^ +(?:public |private )?(?:static )?(?:int|void|boolean|Row|Table) "
                + "([a-zA-Z0-9]+)\\([^)]*\\) \\{").matcher(code);
        while (head.find()) {
            int open = 1;
            int at = head.end();
            while (open > 0) {
                char c = code.charAt(at++);
                open += c == '{' ? 1 : c == '}' ? -1 : 0;
            }
            bodies.merge(head.group(1), code.substring(head.end(), at), String::concat);
        }
        return bodies;
    }

    private static String withoutComments(String source) {
        return source.replaceAll("(?s)/\\*.*?\\*/", "").replaceAll("//[^\n]*", "");
    }
}
