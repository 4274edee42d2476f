import java.io.IOException;
import java.lang.reflect.Constructor;
import java.lang.reflect.Field;
import java.lang.reflect.Method;
import java.lang.reflect.Modifier;
import java.nio.charset.StandardCharsets;
import java.nio.file.Files;
import java.nio.file.Path;
import java.util.ArrayList;
import java.util.Arrays;
import java.util.List;
import java.util.Set;
import java.util.TreeSet;
import java.util.regex.Matcher;
import java.util.regex.Pattern;

/** The rules of LANGUAGE.md, as far as the source and the compiled class show them; run from the project's folder. */
public final class RulesTest {
    private static final Due D = new Due();
    private static final Path SOURCE = Path.of("src/main/java/VisitHall.java");
    private static final Set<String> FACE = Set.of("prisoner 2", "visitor 3", "isOf 2", "list 3", "order 3", "lift 2",
        "rivals 3", "move 1", "told 2", "feed 3", "trim 1", "right 1", "of 2", "ask 5", "why 4", "giveBack 1",
        "visit 2", "rule 2", "days 1", "hall 3", "comes 2", "sheet 2", "mark 3", "copy 5", "lose 1", "count 1");
    private static final Set<String> CONSTANTS = Set.of("BAD", "NO", "FULL", "NONE", "NOTHING", "INDEX", "SIZE");
    private static final Set<String> LIBRARY = Set.of("Arrays.fill", "Arrays.copyOf", "Arrays.copyOfRange",
        "System.arraycopy", "Math.max", "Math.min", "Math.abs", "Math.floorDiv", "Math.floorMod", "Integer.bitCount");

    public static void main(String[] args) throws IOException {
        String source = Files.readString(SOURCE, StandardCharsets.US_ASCII);
        String code = source.replaceAll("(?s)/\\*.*?\\*/", "").replaceAll("//[^\n]*", "");
        face();
        classesInside();
        forbiddenWords(code.replaceAll("\"[^\"\n]*\"", "\"\""));
        lengths(source);
        D.end();
    }

    private static void none(String rule, List<String> found) {
        D.due(rule + " " + found, found.size(), 0);
    }

    /** Rule 1. */
    private static void face() {
        Class<?> c = VisitHall.class;
        D.due("rule 1: public and final", c.getModifiers() & (Modifier.PUBLIC | Modifier.FINAL),
            Modifier.PUBLIC | Modifier.FINAL);
        D.due("rule 1: one constructor", c.getDeclaredConstructors().length, 1);
        for (Constructor<?> k : c.getDeclaredConstructors()) {
            D.due("rule 1: the constructor is public", k.getModifiers(), Modifier.PUBLIC);
            D.due("rule 1: the constructor takes nothing", k.getParameterCount(), 0);
        }
        Set<String> seen = new TreeSet<>();
        Set<String> names = new TreeSet<>();
        for (Method m : c.getDeclaredMethods()) {
            if (Modifier.isPublic(m.getModifiers())) {
                seen.add(m.getName() + " " + m.getParameterCount());
                names.add(m.getName());
                D.due("rule 1: " + m + " answers an int", m.getReturnType() == int.class ? 1 : 0, 1);
            }
        }
        D.due("rule 1: the face is the document's " + seen, seen.equals(FACE) ? 1 : 0, 1);
        for (Method m : c.getDeclaredMethods()) {
            boolean fits = Modifier.isPublic(m.getModifiers())
                || Modifier.isPrivate(m.getModifiers()) && !names.contains(m.getName());
            D.due("rule 1: " + m, fits ? 1 : 0, 1);
        }
        for (Field f : c.getDeclaredFields()) {
            boolean constant = CONSTANTS.contains(f.getName())
                && f.getModifiers() == (Modifier.PUBLIC | Modifier.STATIC | Modifier.FINAL);
            D.due("rule 1: " + f, constant || Modifier.isPrivate(f.getModifiers()) ? 1 : 0, 1);
        }
    }

    /** Rules 1, 2, 5 and 11. */
    private static void classesInside() {
        List<Class<?>> all = new ArrayList<>(Arrays.asList(VisitHall.class.getDeclaredClasses()));
        for (Class<?> c : all) {
            boolean fits = Modifier.isStatic(c.getModifiers())
                && !Modifier.isPublic(c.getModifiers()) && !Modifier.isProtected(c.getModifiers());
            D.due("rule 2: " + c, fits ? 1 : 0, 1);
            D.due("rule 2: nothing inside " + c, c.getDeclaredClasses().length, 0);
        }
        for (Class<?> c : all) {
            for (Method m : c.getDeclaredMethods()) {
                boolean asInTheFace = FACE.stream().anyMatch(f -> f.startsWith(m.getName() + " "));
                D.due("rule 1: no method inside bears a public one's name, " + m, asInTheFace ? 1 : 0, 0);
            }
        }
        all.add(VisitHall.class);
        D.due("rule 11: classes " + all, all.size() <= 12 ? 1 : 0, 1);
        for (Class<?> c : all) {
            int fields = 0;
            for (Field f : c.getDeclaredFields()) {
                boolean fixed = Modifier.isStatic(f.getModifiers());
                fields += fixed ? 0 : 1;
                D.due("rule 5: " + f, !fixed || Modifier.isFinal(f.getModifiers()) ? 1 : 0, 1);
            }
            D.due("rule 11: fields of " + c, fields <= 20 ? 1 : 0, 1);
            for (Method m : c.getDeclaredMethods()) {
                D.due("rule 11: parameters of " + m, m.getParameterCount() <= 7 ? 1 : 0, 1);
            }
        }
    }

    /** Rules 2, 4, 6, 10 and 13. */
    private static void forbiddenWords(String code) {
        none("rules 2 and 6:", found(code, "\\b(throw|throws|try|catch|finally|synchronized|assert|volatile|native|yield)\\b"));
        none("rule 2: lambdas", found(code, "->|::"));
        none("rule 2: anonymous classes", found(code, "new \\w+\\([^()]*\\) *\\{"));
        none("rule 6: own equals, hashCode, toString", found(code, "\\b(hashCode|toString|equals)\\b"));
        none("rule 10: texts joined by +", found(code, "\"\" *\\+|\\+ *\"\""));
        List<String> imports = found(code, "import [^;]*;");
        imports.removeAll(List.of("import java.util.Arrays;", "import java.util.ArrayList;", "import java.util.List;"));
        none("rule 4: imports", imports);
        List<String> library = found(code, "\\b(Arrays|System|Math|Integer|Long|String|List|Thread|Runtime)\\.\\w+");
        library.removeAll(LIBRARY);
        none("rule 4: library", library);
    }

    private static List<String> found(String code, String pattern) {
        List<String> all = new ArrayList<>();
        Matcher m = Pattern.compile(pattern).matcher(code);
        while (m.find()) {
            all.add(m.group());
        }
        return all;
    }

    /** Rule 11: a method ends at the first closing brace that stands as far in as it begins. */
    private static void lengths(String source) {
        Pattern head = Pattern.compile("^( +)(?!.*\\bclass\\b)[\\w\\[\\]. ]+\\(.*\\{$");
        String[] lines = source.split("\n");
        int methods = 0;
        for (int i = 0; i < lines.length; i++) {
            Matcher m = head.matcher(lines[i]);
            if (!m.find() || m.group(1).length() > 8 || lines[i].matches(" +(if|for|while|switch|else).*")) {
                continue;
            }
            int end = i;
            while (end < lines.length && !lines[end].equals(m.group(1) + "}")) {
                end++;
            }
            methods++;
            D.due("rule 11: lines of " + lines[i].trim(), end - i < 60 ? 1 : 0, 1);
        }
        D.due("rule 11: methods were found", methods > 60 ? 1 : 0, 1);
    }
}
