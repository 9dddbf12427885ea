import java.io.IOException;
import java.lang.reflect.Executable;
import java.lang.reflect.Field;
import java.lang.reflect.Modifier;
import java.nio.file.Files;
import java.nio.file.Path;
import java.util.ArrayList;
import java.util.Arrays;
import java.util.HashMap;
import java.util.HashSet;
import java.util.List;
import java.util.Map;
import java.util.Set;
import java.util.regex.Matcher;
import java.util.regex.Pattern;

/**
 * What of LANGUAGE.md can be counted or found in the text of the class, by the rule's number. It is
 * narrower than the rules where the class needs less than they leave: widen it with the class.
 */
public final class LanguageTest {
    private static final int MOST_PARAMETERS = 7;
    private static final int MOST_CLASSES = 12;
    private static final int MOST_FIELDS = 20;
    private static final int MOST_METHOD_LINES = 60;
    private static final int MOST_CALLS_DEEP = 8;
    private static final Set<String> LIBRARY = new HashSet<>(Arrays.asList("Math.min", "Math.max", "Integer.bitCount",
        "Integer.numberOfTrailingZeros", "Integer.MAX_VALUE"));
    private static final Set<String> THROWN = new HashSet<>(Arrays.asList("NoSuchElementException"));
    private static final Pattern METHOD =
        Pattern.compile("^( {4}| {8})(?! )(?:(?:public|private|static|final) )*(?:[\\w\\[\\]]+ )?(\\w+)\\([^;]*\\)[^;]*\\{$");

    private final Checks checks = new Checks();
    private final String text;
    private final List<Class<?>> classes = new ArrayList<>();

    private LanguageTest(String text) {
        this.text = withoutComments(text);
        classes.add(CopyPlacer.class);
        classes.addAll(Arrays.asList(CopyPlacer.class.getDeclaredClasses()));
    }

    public static void main(String[] args) throws IOException {
        LanguageTest test = new LanguageTest(Files.readString(Path.of("src/main/java/CopyPlacer.java")));
        test.classes();
        test.fields();
        test.methods();
        test.library();
        test.loops();
        test.callsDeep();
        test.checks.end();
    }

    private static String withoutComments(String text) {
        return text.replaceAll("(?s)/\\*.*?\\*/", "").replaceAll("//[^\n]*", "");
    }

    private void classes() {
        checks.part("rules 2 and 11, classes");
        checks.due(classes.size() + " classes are some twelve at most", classes.size() <= MOST_CLASSES, true);
        for (Class<?> c : classes) {
            checks.due(c + " final, no class above it", Modifier.isFinal(c.getModifiers()) && c.getSuperclass() == Object.class, true);
            checks.due(c + " implements", c.getInterfaces().length, 0);
            checks.due(c + " holds classes", c.getDeclaredClasses().length, c == CopyPlacer.class ? classes.size() - 1 : 0);
        }
    }

    private void fields() {
        checks.part("rules 3, 5 and 11, fields");
        for (Class<?> c : classes) {
            int own = 0;
            for (Field f : c.getDeclaredFields()) {
                if (Modifier.isStatic(f.getModifiers())) {
                    checks.due(f + " is a constant", Modifier.isFinal(f.getModifiers()) && f.getType() == int.class, true);
                } else {
                    own++;
                    checks.due(f + " is of a type that may be", mayBe(f.getType()), true);
                }
            }
            checks.due(c + " has " + own + " fields", own <= MOST_FIELDS, true);
        }
    }

    private boolean mayBe(Class<?> type) {
        Class<?> of = type.isArray() ? type.getComponentType() : type;
        return of == int.class || of == long.class || of == boolean.class || classes.contains(of);
    }

    private void methods() {
        checks.part("rules 1 and 11, methods");
        for (Class<?> c : classes) {
            List<Executable> all = new ArrayList<>(Arrays.asList(c.getDeclaredMethods()));
            all.addAll(Arrays.asList(c.getDeclaredConstructors()));
            for (Executable m : all) {
                checks.due(m + " takes seven at most", m.getParameterCount() <= MOST_PARAMETERS, true);
                for (Class<?> p : m.getParameterTypes()) {
                    checks.due(m + " takes what may be", mayBe(p), true);
                }
            }
        }
        Map<String, List<String>> bodies = bodies();
        checks.due("methods are found in the text", bodies.size() > 70, true);
        for (Map.Entry<String, List<String>> m : bodies.entrySet()) {
            checks.due(m.getKey() + " has " + m.getValue().size() + " lines", m.getValue().size() <= MOST_METHOD_LINES, true);
        }
    }

    /** The lines of each method and constructor by its name; those of one name are taken together. */
    private Map<String, List<String>> bodies() {
        Map<String, List<String>> bodies = new HashMap<>();
        List<String> open = null;
        String end = "";
        for (String line : text.split("\n")) {
            Matcher m = METHOD.matcher(line);
            if (open == null && m.matches()) {
                open = bodies.computeIfAbsent(m.group(2), name -> new ArrayList<>());
                end = m.group(1) + "}";
            } else if (open != null && line.equals(end)) {
                open = null;
            } else if (open != null) {
                open.add(line);
            }
        }
        return bodies;
    }

    private void library() {
        checks.part("rules 4, 6 and 10, library");
        Matcher used = Pattern.compile("\\b(?:Math|Integer|Long|System|Arrays|String|StringBuilder)\\.\\w+").matcher(text);
        while (used.find()) {
            checks.due(used.group() + " may be used", LIBRARY.contains(used.group()), true);
        }
        Matcher made = Pattern.compile("\\bnew (\\w+)(\\[?)").matcher(text);
        Set<String> own = new HashSet<>();
        for (Class<?> c : classes) {
            own.add(c.getSimpleName());
        }
        while (made.find()) {
            boolean isRow = made.group(2).equals("[");
            boolean fits = own.contains(made.group(1)) || isRow && made.group(1).matches("int|boolean")
                || !isRow && THROWN.contains(made.group(1));
            checks.due(made.group() + " may be made", fits, true);
        }
        for (String word : new String[] {"%", " / ", "/=", "enum", "record", "interface", "abstract", "extends", "float", "double",
            "String", "List", "static {", "import java.util.*"}) {
            checks.due("'" + word + "' stands in it", text.contains(word), false);
        }
        Matcher thrown = Pattern.compile("throw ([^\n]*)").matcher(text);
        int throwing = 0;
        while (thrown.find()) {
            throwing++;
            checks.due(thrown.group(1), thrown.group(1).matches("new NoSuchElementException\\(\"[ -~]*\"\\);"), true);
        }
        checks.due("throw stands in it", throwing, 1);
    }

    /** Each counts a number of its own up to a bound, or down to 0. */
    private void loops() {
        checks.part("rule 9, loops");
        Pattern counted = Pattern.compile("for \\(int (\\w+) = [^;]+; (?:\\1 < [^;]+; \\1\\+\\+|\\1 >= 0; \\1--)\\) \\{");
        int found = 0;
        for (String line : text.split("\n")) {
            if (line.matches(".*\\b(?:for|while|do)\\b.*")) {
                found++;
                Matcher m = counted.matcher(line);
                checks.due(line.trim() + " counts", m.find(), true);
            }
        }
        checks.due("loops are found", found > 20, true);
        Matcher touched = Pattern.compile("for \\(int (\\w+) = [^\n]*\\{\n((?s:.*?))\n +\\}\n").matcher(text);
        while (touched.find()) {
            String counter = touched.group(1);
            checks.due(counter + " is set in its loop: " + touched.group(2),
                Pattern.compile("(?m)^ *" + counter + "(?:\\+\\+|--| [-+|&]?= )").matcher(touched.group(2)).find(), false);
        }
    }

    /** By the names in the text; a method that called itself, by others too, would go too deep here. */
    private void callsDeep() {
        checks.part("rules 8 and 11, calls");
        Map<String, List<String>> bodies = bodies();
        int deepest = 0;
        for (String name : bodies.keySet()) {
            deepest = Math.max(deepest, deepFrom(name, bodies, 1));
        }
        checks.due("calls go " + deepest + " deep", deepest <= MOST_CALLS_DEEP, true);
        checks.due("calls are found", deepest >= 4, true);
    }

    private static int deepFrom(String name, Map<String, List<String>> bodies, int depth) {
        int deepest = depth;
        if (depth > 20) {
            return depth;
        }
        Matcher m = Pattern.compile("\\b(\\w+)\\(").matcher(String.join("\n", bodies.get(name)));
        while (m.find()) {
            if (bodies.containsKey(m.group(1))) {
                deepest = Math.max(deepest, deepFrom(m.group(1), bodies, depth + 1));
            }
        }
        return deepest;
    }
}
