import java.io.InputStream;
import java.util.ArrayList;
import java.util.List;
import java.util.Map;
import java.util.Set;
import java.util.TreeMap;
import java.util.TreeSet;

/** What LANGUAGE.md rules out isn't in the compiled class either: library, exceptions, objects, deep calls. */
public final class BytecodeTest extends Checks {
    private static final int DEEPEST = 8;
    private static final int[] RULED_OUT = {
        ClassFile.ATHROW, ClassFile.INVOKEDYNAMIC, ClassFile.MONITORENTER
    };
    private static final int[] MAKING = {
        ClassFile.NEW, ClassFile.NEWARRAY, ClassFile.ANEWARRAY, ClassFile.MULTIANEWARRAY
    };
    private static final Set<String> LIBRARY = Set.of(
        "java/lang/Object.<init>()V", "java/lang/Math.max(II)I", "java/lang/Math.min(II)I",
        "java/lang/Math.abs(I)I");

    private static final Map<String, ClassFile.Method> METHODS = new TreeMap<>();
    private static final Map<String, Set<String>> REACHED = new TreeMap<>();

    private static void read(Class<?> c) throws Exception {
        String file = c.getName() + ".class";
        try (InputStream in = c.getResourceAsStream(file)) {
            for (ClassFile.Method method : new ClassFile(in.readAllBytes()).methods) {
                METHODS.put(method.name, method);
            }
        }
    }

    private static Set<String> reachedFrom(String name) {
        Set<String> reached = new TreeSet<>();
        List<String> next = new ArrayList<>(own(name));
        while (!next.isEmpty()) {
            String called = next.remove(next.size() - 1);
            if (reached.add(called)) {
                next.addAll(own(called));
            }
        }
        return reached;
    }

    private static List<String> own(String name) {
        List<String> own = new ArrayList<>(METHODS.get(name).calls);
        own.removeIf(called -> !METHODS.containsKey(called));
        return own;
    }

    /** How many calls of methods stand open at most, those that call one another counted as one. */
    private static int depth(String name) {
        int deepest = 0;
        Set<String> round = new TreeSet<>(Set.of(name));
        for (String other : REACHED.get(name)) {
            if (REACHED.get(other).contains(name)) {
                round.add(other);
            }
        }
        for (String member : round) {
            for (String called : METHODS.get(member).calls) {
                if (!round.contains(called)) {
                    deepest = Math.max(deepest, METHODS.containsKey(called) ? depth(called) : 1);
                }
            }
        }
        return deepest + 1;
    }

    private static void look(ClassFile.Method method) {
        for (int step : RULED_OUT) {
            due(method.name + " does " + step, method.does(step) ? 1 : 0, 0);
        }
        due(method.name + " catches", method.handlers, 0);
        for (int step : MAKING) {
            boolean isCall = !method.beginsSomething();
            due(method.name + " makes an object or an array", isCall && method.does(step) ? 1 : 0, 0);
        }
        for (String called : method.calls) {
            boolean isKnown = METHODS.containsKey(called) || LIBRARY.contains(called);
            due(method.name + " calls (1) " + called, isKnown ? 1 : 0, 1);
        }
    }

    public static void main(String[] args) throws Exception {
        part = "bytecode";
        read(OneGoCeiling.class);
        for (Class<?> c : OneGoCeiling.class.getDeclaredClasses()) {
            read(c);
        }
        due("many methods are found (1)", METHODS.size() > 100 ? 1 : 0, 1);
        for (String name : METHODS.keySet()) {
            REACHED.put(name, reachedFrom(name));
        }
        for (ClassFile.Method method : METHODS.values()) {
            look(method);
            due(method.name + " calls not too deep (1)", depth(method.name) <= DEEPEST ? 1 : 0, 1);
        }
        end();
    }
}
