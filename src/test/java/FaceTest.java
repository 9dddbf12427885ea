import java.lang.reflect.Constructor;
import java.lang.reflect.Field;
import java.lang.reflect.InvocationTargetException;
import java.lang.reflect.Method;
import java.lang.reflect.Modifier;
import java.nio.file.Files;
import java.nio.file.Path;
import java.util.ArrayList;
import java.util.Arrays;
import java.util.Comparator;
import java.util.HashSet;
import java.util.List;
import java.util.NoSuchElementException;
import java.util.Random;
import java.util.Set;
import java.util.TreeSet;

/** The class has the document's face and no more, throws nothing by itself, and keeps to plain rules. */
public final class FaceTest {
    private static final String[] FACE = {
        "int host(int, int)", "boolean line(int, int, int)", "boolean cut(int, int, boolean)",
        "int thing(int, int, int)", "boolean pin(int, int, boolean)", "int price(int, int)",
        "int nearest(int, int)", "int ask(int, int)", "int write(int, int)", "int tick(int)", "int fall(int)",
        "boolean rise(int)", "int about(int, int)", "int coming(int, int, int)", "int credit(int, int)",
        "int hostOf(int, int)", "long cost(int, int)", "long best(int)", "int bestAt(int, int)",
        "int log(int, int, int)", "int count(int)"};
    private static final int[] WILD = {Integer.MIN_VALUE, Integer.MIN_VALUE + 1, -1000000, -7, -2, 6, 7, 8, 59, 60, 61,
        200, 201, 4096, 1 << 30, Integer.MAX_VALUE - 1, Integer.MAX_VALUE};

    private final Checks checks = new Checks();

    public static void main(String[] args) throws Exception {
        FaceTest test = new FaceTest();
        test.methods();
        test.members();
        test.wildCalls();
        test.source();
        test.checks.end();
    }

    private void methods() {
        checks.part("face");
        Set<String> found = new TreeSet<>();
        for (Method m : CopyPlacer.class.getDeclaredMethods()) {
            if (!Modifier.isPrivate(m.getModifiers())) {
                found.add(told(m));
                checks.due(m.getName() + " is public and of the object",
                    Modifier.isPublic(m.getModifiers()) && !Modifier.isStatic(m.getModifiers()), true);
            }
        }
        checks.due("methods are the document's: " + found, found.equals(new TreeSet<>(Arrays.asList(FACE))), true);
    }

    private static String told(Method m) {
        StringBuilder b = new StringBuilder(m.getReturnType() + " " + m.getName() + "(");
        for (Class<?> c : m.getParameterTypes()) {
            b.append(b.charAt(b.length() - 1) == '(' ? "" : ", ").append(c);
        }
        return b.append(")").toString();
    }

    private void members() throws Exception {
        checks.part("members");
        checks.due("final", Modifier.isFinal(CopyPlacer.class.getModifiers()), true);
        for (Field f : CopyPlacer.class.getDeclaredFields()) {
            checks.due(f.getName() + " private", Modifier.isPrivate(f.getModifiers()), !f.getName().equals("NONE"));
        }
        Constructor<?>[] made = CopyPlacer.class.getDeclaredConstructors();
        checks.due("one constructor", made.length, 1);
        checks.due("without arguments", made[0].getParameterCount(), 0);
        Class<?>[] thrown = CopyPlacer.class.getMethod("price", int.class, int.class).getExceptionTypes();
        checks.due("price declares its exception", thrown.length == 1 && thrown[0] == NoSuchElementException.class, true);
        Set<String> face = new HashSet<>();
        for (Method m : CopyPlacer.class.getMethods()) {
            face.add(m.getName());
        }
        for (Class<?> c : CopyPlacer.class.getDeclaredClasses()) {
            checks.due(c.getName() + " static", Modifier.isStatic(c.getModifiers()), true);
            checks.due(c.getName() + " public", Modifier.isPublic(c.getModifiers()), false);
            for (Method m : c.getDeclaredMethods()) {
                checks.due(c.getName() + "." + m.getName() + " has a face's name", face.contains(m.getName()), false);
            }
        }
    }

    /** Calls with numbers near and far out in any state: only price may throw, and only its own exception. */
    private void wildCalls() throws IllegalAccessException {
        checks.part("wild calls");
        List<Method> methods = new ArrayList<>();
        for (Method m : CopyPlacer.class.getDeclaredMethods()) {
            if (Modifier.isPublic(m.getModifiers())) {
                methods.add(m);
            }
        }
        methods.sort(Comparator.comparing(FaceTest::told));
        for (int seed = 0; seed < 300; seed++) {
            Random random = new Random(seed);
            CopyPlacer x = new CopyPlacer();
            for (int i = 0; i < 512; i++) {
                wildCall(x, methods.get(random.nextInt(methods.size())), random);
            }
        }
    }

    private void wildCall(CopyPlacer x, Method m, Random random) throws IllegalAccessException {
        Object[] given = new Object[m.getParameterCount()];
        for (int i = 0; i < given.length; i++) {
            if (m.getParameterTypes()[i] == boolean.class) {
                given[i] = random.nextBoolean();
            } else {
                given[i] = random.nextInt(8) == 0 ? WILD[random.nextInt(WILD.length)] : random.nextInt(6);
            }
        }
        try {
            m.invoke(x, given);
        } catch (InvocationTargetException e) {
            boolean due = m.getName().equals("price") && e.getCause().getClass() == NoSuchElementException.class;
            checks.due(m.getName() + Arrays.toString(given) + " threw " + e.getCause(), due, true);
        }
    }

    private void source() throws Exception {
        checks.part("source");
        String text = Files.readString(Path.of("src/main/java/CopyPlacer.java"));
        for (String word : new String[] {"catch", "try ", "->", "::", "synchronized", "assert", "Exact(", "System.out",
            "package ", "instanceof", "finally", "protected"}) {
            checks.due("'" + word + "' stands in it", text.contains(word), false);
        }
        checks.due("imports", text.split("\nimport |^import ", -1).length - 1, 1);
        checks.due("plain signs", text.chars().allMatch(c -> c == '\n' || c >= 32 && c < 127), true);
    }
}
