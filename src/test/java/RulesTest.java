import com.sun.source.tree.CompilationUnitTree;
import com.sun.source.util.JavacTask;
import com.sun.source.util.Trees;
import java.io.IOException;
import java.lang.reflect.Array;
import java.lang.reflect.Field;
import java.lang.reflect.Modifier;
import java.nio.file.Path;
import java.util.ArrayDeque;
import java.util.Deque;
import java.util.IdentityHashMap;
import java.util.List;
import java.util.Map;
import java.util.Set;
import java.util.TreeSet;
import javax.tools.JavaCompiler;
import javax.tools.StandardJavaFileManager;
import javax.tools.ToolProvider;

/** ../shared/LANGUAGE.md by the source's tree, as javac reads it, and by what an object holds. */
public final class RulesTest {
    private static final Path SOURCE = Path.of("src/main/java/DrawerGloves.java");
    private static final int DEEPEST = 8;
    private static final int CALLS = 512;
    // one room for all that a run makes is 600,000 objects, 7.3 million elements: an object takes little of it
    private static final int MOST_OBJECTS = 600, MOST_ELEMENTS = 73000;
    private static final Checks CHECKS = new Checks("RulesTest");

    private RulesTest() {
    }

    public static void main(String[] args) throws IOException, IllegalAccessException {
        RulesOfTrees rules = new RulesOfTrees(CHECKS);
        JavaCompiler javac = ToolProvider.getSystemJavaCompiler();
        try (StandardJavaFileManager files = javac.getStandardFileManager(null, null, null)) {
            JavacTask task = (JavacTask) javac.getTask(null, files, null, List.of("-proc:none"), null,
                files.getJavaFileObjects(SOURCE));
            Iterable<? extends CompilationUnitTree> units = task.parse();
            task.analyze();
            for (CompilationUnitTree unit : units) rules.look(unit, Trees.instance(task));
        }
        calls(rules.calls);
        recursion(rules.calls, rules.privateStatic);
        weight();
        CHECKS.end();
    }

    /** Rule 11: a recursion counts once here, its depth is rule 8's. */
    private static void calls(Map<String, Set<String>> calls) {
        CHECKS.same("methods were found", calls.size() > 100 ? 1 : 0, 1);
        for (String method : calls.keySet()) {
            int depth = depth(method, calls, new ArrayDeque<>());
            if (depth > DEEPEST) CHECKS.same("rule 11: calls from " + method, depth, DEEPEST);
        }
    }

    private static int depth(String method, Map<String, Set<String>> calls, Deque<String> open) {
        if (!calls.containsKey(method) || open.contains(method)) return 0;
        open.push(method);
        int deepest = 0;
        for (String next : calls.get(method)) deepest = Math.max(deepest, depth(next, calls, open));
        open.pop();
        return deepest + 1;
    }

    /** Rule 8: the class knows one way alone, private static methods that call themselves. */
    private static void recursion(Map<String, Set<String>> calls, Set<String> privateStatic) {
        for (String method : calls.keySet()) {
            Set<String> reached = reached(method, calls);
            if (!reached.contains(method)) continue;
            CHECKS.same("rule 8: " + method + " is private and static", privateStatic.contains(method) ? 1 : 0, 1);
            CHECKS.same("rule 8: " + method + " calls itself", calls.get(method).contains(method) ? 1 : 0, 1);
            for (String other : reached) {
                boolean back = !other.equals(method) && reached(other, calls).contains(method);
                CHECKS.same("rule 8: " + method + " by way of " + other, back ? 1 : 0, 0);
            }
        }
    }

    private static Set<String> reached(String method, Map<String, Set<String>> calls) {
        Set<String> all = new TreeSet<>();
        Deque<String> open = new ArrayDeque<>(calls.getOrDefault(method, Set.of()));
        while (!open.isEmpty()) {
            String next = open.pop();
            if (all.add(next)) open.addAll(calls.getOrDefault(next, Set.of()));
        }
        return all;
    }

    /** Rule 12 and the room of a run: what an object holds is little, and its calls add nothing to it. */
    private static void weight() throws IllegalAccessException {
        DrawerGloves x = new DrawerGloves();
        int[] first = weigh(x);
        CHECKS.same("objects: " + first[0], first[0] > 1 && first[0] <= MOST_OBJECTS ? 1 : 0, 1);
        CHECKS.same("elements: " + first[1], first[1] > 1 && first[1] <= MOST_ELEMENTS ? 1 : 0, 1);
        String text = "d8 g309 m417 e205 s108 l514 t916 g313 m401";
        Desk.write(x, 0, text);
        x.drawer(0);
        for (int n = text.length() + 2; n < CALLS; n++) someCall(x, n);
        int[] last = weigh(x);
        CHECKS.same("objects after " + CALLS + " calls", last[0], first[0]);
        CHECKS.same("elements after " + CALLS + " calls", last[1], first[1]);
    }

    private static void someCall(DrawerGloves x, int n) {
        switch (n % 16) {
            case 0: x.row(n % 6, n % 41); break;
            case 1: x.lots(1, n); break;
            case 2: x.days(3, n % 6); break;
            case 3: x.duel(6); break;
            case 4: x.odds(2, n % 13, 5); break;
            case 5: x.mid(3, n % 13); break;
            case 6: x.keep(n / 16 % 3); break;
            case 7: x.on(n / 16 % 3); break;
            case 8: x.room(); break;
            case 9: x.pairs(n % 6); break;
            case 10: x.test(n % 8, n % 6); break;
            case 11: x.text(1 + n % 3, n % 61); break;
            case 12: x.join(n % 256, 255 - n % 256); break;
            case 13: x.drawer(0); break;
            case 14: x.wear(0, 1); break;
            default: x.digest(); break;
        }
    }

    private static int[] weigh(Object whole) throws IllegalAccessException {
        Map<Object, Boolean> seen = new IdentityHashMap<>();
        Deque<Object> open = new ArrayDeque<>(List.of(whole));
        int elements = 0;
        while (!open.isEmpty()) {
            Object one = open.pop();
            if (seen.put(one, true) != null) continue;
            elements += one.getClass().isArray() ? places(one, open) : fields(one, open);
        }
        return new int[] {seen.size(), elements};
    }

    private static int places(Object array, Deque<Object> open) {
        int size = Array.getLength(array);
        if (array instanceof Object[]) {
            for (int k = 0; k < size; k++) {
                if (Array.get(array, k) != null) open.push(Array.get(array, k));
            }
        }
        return size;
    }

    private static int fields(Object one, Deque<Object> open) throws IllegalAccessException {
        int size = 0;
        for (Field f : one.getClass().getDeclaredFields()) {
            if (Modifier.isStatic(f.getModifiers())) continue;
            size++;
            f.setAccessible(true);
            if (!f.getType().isPrimitive() && f.get(one) != null) open.push(f.get(one));
        }
        return size;
    }
}
