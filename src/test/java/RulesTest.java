import java.io.IOException;
import java.lang.reflect.Constructor;
import java.lang.reflect.Field;
import java.lang.reflect.Method;
import java.lang.reflect.Modifier;
import java.nio.charset.StandardCharsets;
import java.nio.file.Files;
import java.nio.file.Path;
import java.util.ArrayList;
import java.util.Arrays;
import java.util.List;
import java.util.Map;
import java.util.Set;
import java.util.TreeMap;
import java.util.TreeSet;
import java.util.regex.Matcher;
import java.util.regex.Pattern;

/** The rules of LANGUAGE.md, as far as the source and the compiled class show them; run from the project's folder. */
public final class RulesTest {
    private static final Due D = new Due();
    private static final Path SOURCE = Path.of("src/main/java/VisitHall.java");
    private static final Set<String> FACE = Set.of("prisoner 2", "visitor 3", "isOf 2", "list 3", "order 3", "lift 2",
        "rivals 3", "move 1", "told 2", "feed 3", "trim 1", "right 1", "of 2", "ask 5", "why 4", "giveBack 1",
        "visit 2", "rule 2", "days 1", "hall 3", "comes 2", "sheet 2", "mark 3", "copy 5", "lose 1", "count 1");
    private static final Set<String> CONSTANTS = Set.of("BAD", "NO", "FULL", "NONE", "NOTHING", "INDEX", "SIZE");
    private static final Set<String> LIBRARY = Set.of("Arrays.fill", "Arrays.copyOf", "Arrays.copyOfRange",
        "System.arraycopy", "Math.max", "Math.min", "Math.abs", "Math.floorDiv", "Math.floorMod", "Integer.bitCount");

    public static void main(String[] args) throws IOException {
        String source = Files.readString(SOURCE, StandardCharsets.US_ASCII);
        String code = source.replaceAll("(?s)/\\*.*?\\*/", "").replaceAll("//[^\n]*", "");
        face();
        classesInside();
        typesInside();
        forbiddenWords(code.replaceAll("\"[^\"\n]*\"", "\"\""));
        Map<String, String> bodies = bodies(code);
        lengths(bodies);
        depths(bodies);
        D.end();
    }

    private static void none(String rule, List<String> found) {
        D.due(rule + " " + found, found.size(), 0);
    }

    /** Rule 1. */
    private static void face() {
        Class<?> c = VisitHall.class;
        D.due("rule 1: public and final", c.getModifiers() & (Modifier.PUBLIC | Modifier.FINAL),
            Modifier.PUBLIC | Modifier.FINAL);
        D.due("rule 1: one constructor", c.getDeclaredConstructors().length, 1);
        for (Constructor<?> k : c.getDeclaredConstructors()) {
            D.due("rule 1: the constructor is public", k.getModifiers(), Modifier.PUBLIC);
            D.due("rule 1: the constructor takes nothing", k.getParameterCount(), 0);
        }
        Set<String> seen = new TreeSet<>();
        Set<String> names = new TreeSet<>();
        for (Method m : c.getDeclaredMethods()) {
            if (Modifier.isPublic(m.getModifiers())) {
                seen.add(m.getName() + " " + m.getParameterCount());
                names.add(m.getName());
                D.due("rule 1: " + m + " answers an int", m.getReturnType() == int.class ? 1 : 0, 1);
            }
        }
        D.due("rule 1: the face is the document's " + seen, seen.equals(FACE) ? 1 : 0, 1);
        for (Method m : c.getDeclaredMethods()) {
            boolean fits = Modifier.isPublic(m.getModifiers())
                || Modifier.isPrivate(m.getModifiers()) && !names.contains(m.getName());
            D.due("rule 1: " + m, fits ? 1 : 0, 1);
        }
        for (Field f : c.getDeclaredFields()) {
            boolean constant = CONSTANTS.contains(f.getName())
                && f.getModifiers() == (Modifier.PUBLIC | Modifier.STATIC | Modifier.FINAL);
            D.due("rule 1: " + f, constant || Modifier.isPrivate(f.getModifiers()) ? 1 : 0, 1);
        }
    }

    /** Rules 1, 2, 5 and 11. */
    private static void classesInside() {
        List<Class<?>> all = new ArrayList<>(Arrays.asList(VisitHall.class.getDeclaredClasses()));
        for (Class<?> c : all) {
            boolean fits = Modifier.isStatic(c.getModifiers())
                && !Modifier.isPublic(c.getModifiers()) && !Modifier.isProtected(c.getModifiers());
            D.due("rule 2: " + c, fits ? 1 : 0, 1);
            D.due("rule 2: nothing inside " + c, c.getDeclaredClasses().length, 0);
        }
        for (Class<?> c : all) {
            for (Method m : c.getDeclaredMethods()) {
                boolean asInTheFace = FACE.stream().anyMatch(f -> f.startsWith(m.getName() + " "));
                D.due("rule 1: no method inside bears a public one's name, " + m, asInTheFace ? 1 : 0, 0);
            }
        }
        all.add(VisitHall.class);
        D.due("rule 11: classes " + all, all.size() <= 12 ? 1 : 0, 1);
        for (Class<?> c : all) {
            int fields = 0;
            for (Field f : c.getDeclaredFields()) {
                boolean fixed = Modifier.isStatic(f.getModifiers());
                fields += fixed ? 0 : 1;
                D.due("rule 5: " + f, !fixed || Modifier.isFinal(f.getModifiers()) ? 1 : 0, 1);
            }
            D.due("rule 11: fields of " + c, fields <= 20 ? 1 : 0, 1);
            for (Method m : c.getDeclaredMethods()) {
                D.due("rule 11: parameters of " + m, m.getParameterCount() <= 7 ? 1 : 0, 1);
            }
        }
    }

    /** Rules 2, 4, 6, 10 and 13. */
    private static void forbiddenWords(String code) {
        none("rules 2 and 6:", found(code, "\\b(throw|throws|try|catch|finally|synchronized|assert|volatile|native|yield)\\b"));
        none("rule 2: lambdas", found(code, "->|::"));
        none("rule 2: anonymous classes", found(code, "new \\w+\\([^()]*\\) *\\{"));
        none("rule 6: own equals, hashCode, toString", found(code, "\\b(hashCode|toString|equals)\\b"));
        none("rule 10: texts joined by +", found(code, "\"\" *\\+|\\+ *\"\""));
        List<String> imports = found(code, "import [^;]*;");
        imports.removeAll(List.of("import java.util.Arrays;", "import java.util.ArrayList;", "import java.util.List;"));
        none("rule 4: imports", imports);
        List<String> library = found(code, "\\b(Arrays|System|Math|Integer|Long|String|List|Thread|Runtime)\\.\\w+");
        library.removeAll(LIBRARY);
        none("rule 4: library", library);
    }

    private static List<String> found(String code, String pattern) {
        List<String> all = new ArrayList<>();
        Matcher m = Pattern.compile(pattern).matcher(code);
        while (m.find()) {
            all.add(m.group());
        }
        return all;
    }

    /** Rules 3 and 5: what fields hold, and what methods take and answer. */
    private static void typesInside() {
        List<Class<?>> own = new ArrayList<>(Arrays.asList(VisitHall.class.getDeclaredClasses()));
        own.add(VisitHall.class);
        for (Class<?> c : own) {
            for (Field f : c.getDeclaredFields()) {
                D.due("rule 3: " + f, isAllowed(f.getType(), own) ? 1 : 0, 1);
                if (Modifier.isStatic(f.getModifiers())) {
                    boolean fits = Set.of("int", "long", "boolean", "char", "String").contains(f.getType().getSimpleName());
                    D.due("rule 5: a plain constant, " + f, fits ? 1 : 0, 1);
                }
            }
            for (Method m : c.getDeclaredMethods()) {
                boolean fits = isAllowed(m.getReturnType(), own);
                for (Class<?> type : m.getParameterTypes()) {
                    fits &= isAllowed(type, own);
                }
                D.due("rule 3: " + m, fits ? 1 : 0, 1);
            }
        }
    }

    private static boolean isAllowed(Class<?> type, List<Class<?>> own) {
        Class<?> plain = type.isArray() ? type.getComponentType() : type;
        return plain.isPrimitive() || own.contains(plain) || type == String.class;
    }

    /**
     * The lines of each method by its name, constructors by their class's; a method ends at the first closing brace
     * that stands as far in as it begins. No two bear one name, so that a name tells which one is called.
     */
    private static Map<String, String> bodies(String code) {
        Pattern head = Pattern.compile("^( {4}| {8})(?!if |for |while |switch |\\} )(?:[\\w\\[\\]]+ )*(\\w+)\\(.*\\{$");
        String[] lines = code.split("\n");
        Map<String, String> bodies = new TreeMap<>();
        for (int i = 0; i < lines.length; i++) {
            Matcher m = head.matcher(lines[i]);
            if (!m.find()) {
                continue;
            }
            StringBuilder body = new StringBuilder();
            for (i++; i < lines.length && !lines[i].equals(m.group(1) + "}"); i++) {
                body.append(lines[i]).append('\n');
            }
            D.due("one method named " + m.group(2), bodies.put(m.group(2), body.toString()) == null ? 1 : 0, 1);
        }
        int declared = 0;
        List<Class<?>> own = new ArrayList<>(Arrays.asList(VisitHall.class.getDeclaredClasses()));
        own.add(VisitHall.class);
        for (Class<?> c : own) {
            declared += c.getDeclaredMethods().length;
        }
        long methods = bodies.keySet().stream().filter(name -> Character.isLowerCase(name.charAt(0))).count();
        D.due("all methods were found in the source", methods, declared);
        return bodies;
    }

    /** Rule 11. */
    private static void lengths(Map<String, String> bodies) {
        bodies.forEach((name, body) -> D.due("rule 11: lines of " + name, body.split("\n").length < 58 ? 1 : 0, 1));
    }

    /** Rules 8 and 11: no method comes to itself again, and no call goes more than eight deep. */
    private static void depths(Map<String, String> bodies) {
        for (String name : bodies.keySet()) {
            List<String> longest = longestChain(name, bodies, new ArrayList<>());
            D.due("rule 11: calls one in the other " + longest, longest.size() <= 8 ? 1 : 0, 1);
        }
    }

    private static List<String> longestChain(String name, Map<String, String> bodies, List<String> open) {
        List<String> longest = List.of();
        boolean again = open.contains(name);
        D.due("rule 8: " + open + " calls " + name + " again", again ? 1 : 0, 0);
        List<String> within = new ArrayList<>(open);
        within.add(name);
        for (String called : again ? List.<String>of() : found(bodies.get(name), "\\w+(?=\\()")) {
            List<String> chain = bodies.containsKey(called) ? longestChain(called, bodies, within) : List.of();
            longest = chain.size() > longest.size() ? chain : longest;
        }
        List<String> all = new ArrayList<>(List.of(name));
        all.addAll(longest);
        return all;
    }
}
