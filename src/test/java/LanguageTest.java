import java.io.IOException;
import java.lang.reflect.Constructor;
import java.lang.reflect.Field;
import java.lang.reflect.Method;
import java.lang.reflect.Modifier;
import java.nio.file.Files;
import java.nio.file.Path;
import java.util.Arrays;
import java.util.Set;
import java.util.TreeSet;
import java.util.regex.Matcher;
import java.util.regex.Pattern;

/** What can be told of ../shared/LANGUAGE.md and of the face by looking at the class and its source. */
public final class LanguageTest {
    private static final Path SOURCE = Path.of("src/main/java/DrawerGloves.java");
    private static final String FACE = "int row(int, int)|int lay(int, int, int)|int at(int, int)|int tear(int)"
        + "|int copy(int, int, int, int, int)|int mean(int)|int text(int, int)|int put(int, int, int)|int fault(int)"
        + "|int drawer(int)|int glove(int, int)|int mark(int, int)|int pair(int, int)|int wear(int, int)|int lose(int)"
        + "|int back(int)|int out(int)|int undo(int)|int keep(int)|int on(int)|int good(int)|int pairs(int)"
        + "|int missed()|int wished()|int days(int, int)|int room()|int join(int, int)|int sorts(int, int)"
        + "|int hands(int, int)|int kinds(int, int)|int test(int, int)|int duel(int)|int odds(int, int, int)"
        + "|int mid(int, int)|int lots(int, int)|int asked()|long upper()|long lower()|int count(int)|int finding()"
        + "|int findings(int)|long digest()";
    private static final String[] FORBIDDEN = {"throw", "throws", "try", "catch", "finally", "synchronized",
        "assert", "import", "package", "goto", "protected", "volatile", "transient", "native", "Object",
        "Exception", "System.out", "System.err", "Random", "Thread", "lambda"};
    private static final Checks CHECKS = new Checks("LanguageTest");

    public static void main(String[] args) throws IOException {
        String source = withoutComments(Files.readString(SOURCE));
        words(source);
        face();
        insideClasses();
        CHECKS.end();
    }

    private static String withoutComments(String source) {
        return source.replaceAll("(?s)/\\*.*?\\*/", "").replaceAll("//[^\n]*", "");
    }

    private static boolean has(String source, String regex) {
        return Pattern.compile(regex).matcher(source).find();
    }

    private static void words(String source) {
        for (String word : FORBIDDEN) {
            CHECKS.same("the word " + word, has(source, "\\b" + Pattern.quote(word) + "\\b") ? 1 : 0, 0);
        }
        CHECKS.same("lambdas", source.contains("->") ? 1 : 0, 0);
        CHECKS.same("method references", source.contains("::") ? 1 : 0, 0);
        CHECKS.same("annotations", source.contains("@") ? 1 : 0, 0);
        Matcher library = Pattern.compile("\\b(System|Math|Integer|Long|Arrays|List|ArrayList)\\.(\\w+)").matcher(source);
        Set<String> allowed = Set.of("System.arraycopy", "Math.max", "Math.min", "Math.abs", "Integer.bitCount");
        while (library.find()) CHECKS.same(library.group(), allowed.contains(library.group()) ? 1 : 0, 1);
        for (char sign : source.toCharArray()) if (sign > 126) CHECKS.same("sign", sign, 0);
    }

    private static void face() {
        Class<?> c = DrawerGloves.class;
        CHECKS.same("public, final", c.getModifiers() & (Modifier.PUBLIC | Modifier.FINAL),
            Modifier.PUBLIC | Modifier.FINAL);
        Set<String> got = new TreeSet<>();
        Set<String> names = new TreeSet<>();
        for (Method m : c.getDeclaredMethods()) {
            if (Modifier.isPrivate(m.getModifiers())) continue;
            CHECKS.same("public: " + m, Modifier.isPublic(m.getModifiers()) ? 1 : 0, 1);
            StringBuilder types = new StringBuilder();
            for (Class<?> p : m.getParameterTypes()) types.append(types.length() > 0 ? ", " : "").append(p.getName());
            got.add(m.getReturnType() + " " + m.getName() + "(" + types + ")");
            names.add(m.getName());
        }
        CHECKS.same("the face", String.join("|", got), String.join("|", new TreeSet<>(Arrays.asList(FACE.split("\\|")))));
        for (Constructor<?> k : c.getDeclaredConstructors()) {
            CHECKS.same("one constructor", Modifier.isPublic(k.getModifiers()) && k.getParameterCount() == 0 ? 1 : 0, 1);
        }
        for (Class<?> one : classes()) {
            for (Method m : one.getDeclaredMethods()) {
                boolean ofFace = one == c && Modifier.isPublic(m.getModifiers());
                if (!ofFace) CHECKS.same("a name of the face: " + m, names.contains(m.getName()) ? 1 : 0, 0);
                CHECKS.same("parameters of " + m, m.getParameterCount() <= 7 ? 1 : 0, 1);
            }
        }
        constants(c);
    }

    private static void constants(Class<?> c) {
        Set<String> open = new TreeSet<>();
        for (Field f : c.getDeclaredFields()) {
            if (!Modifier.isPrivate(f.getModifiers())) open.add(f.getName());
        }
        CHECKS.same("constants", String.join(" ", open), "BAD FINDING FULL NONE SPENT STATE");
    }

    private static Class<?>[] classes() {
        Class<?>[] inside = DrawerGloves.class.getDeclaredClasses();
        Class<?>[] all = Arrays.copyOf(inside, inside.length + 1);
        all[inside.length] = DrawerGloves.class;
        return all;
    }

    private static void insideClasses() {
        CHECKS.same("classes", classes().length <= 12 ? 1 : 0, 1);
        for (Class<?> one : classes()) {
            int fields = 0;
            for (Field f : one.getDeclaredFields()) {
                if (Modifier.isStatic(f.getModifiers())) {
                    CHECKS.same("final: " + f, Modifier.isFinal(f.getModifiers()) ? 1 : 0, 1);
                } else {
                    fields++;
                }
            }
            CHECKS.same("fields of " + one, fields <= 20 ? 1 : 0, 1);
            if (one == DrawerGloves.class) continue;
            CHECKS.same("static: " + one, Modifier.isStatic(one.getModifiers()) ? 1 : 0, 1);
            CHECKS.same("not open: " + one, one.getModifiers() & (Modifier.PUBLIC | Modifier.PROTECTED), 0);
        }
    }
}
