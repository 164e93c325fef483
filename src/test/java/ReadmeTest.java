import java.io.IOException;
import java.lang.reflect.InvocationTargetException;
import java.lang.reflect.Method;
import java.lang.reflect.Modifier;
import java.nio.file.DirectoryStream;
import java.nio.file.Files;
import java.nio.file.Path;
import java.util.regex.Matcher;
import java.util.regex.Pattern;

/** README.md: its example is carried out line by line; every call and every test must stand in it. */
public final class ReadmeTest {
    private static final Checks CHECKS = new Checks("ReadmeTest");

    private ReadmeTest() {
    }

    public static void main(String[] args) throws IOException, ReflectiveOperationException {
        String readme = Files.readString(Path.of("README.md"));
        example(readme);
        calls(readme);
        tests(readme);
        CHECKS.end();
    }

    private static void example(String readme) throws ReflectiveOperationException {
        Matcher text = Pattern.compile("String text = \"([^\"]*)\";").matcher(readme);
        if (!text.find()) {
            CHECKS.same("a TEXT in the example", 0, 1);
            return;
        }
        DrawerGloves x = new DrawerGloves();
        Desk.write(x, 0, text.group(1));
        Matcher line = Pattern.compile("(?m)^x\\.(\\w+)\\(([-0-9, ]*)\\);\\s*// (-?\\d+)(?: \\((\\w+)\\))?").matcher(readme);
        int lines = 0;
        while (line.find()) {
            lines++;
            CHECKS.same(line.group(), answer(x, line.group(1), line.group(2)), Long.parseLong(line.group(3)));
            if (line.group(4) != null) named(line.group(4), line.group(3));
        }
        int told = readme.split("(?m)^x\\.", -1).length - 1;
        CHECKS.same("lines of the example whose answer is told, but for x.text(..)", lines, told - 1);
        CHECKS.same("it has some", lines > 10 ? 1 : 0, 1);
    }

    private static long answer(DrawerGloves x, String name, String numbers) throws ReflectiveOperationException {
        String[] parts = numbers.isBlank() ? new String[0] : numbers.split(",");
        Class<?>[] types = new Class<?>[parts.length];
        Object[] values = new Object[parts.length];
        for (int k = 0; k < parts.length; k++) {
            types[k] = int.class;
            values[k] = Integer.valueOf(parts[k].trim());
        }
        try {
            return ((Number) DrawerGloves.class.getMethod(name, types).invoke(x, values)).longValue();
        } catch (InvocationTargetException e) {
            throw new IllegalStateException(name + "(" + numbers + ") threw", e);
        }
    }

    /** A constant of the face by its name; FINDINGS have no constants, but the document tells their numbers. */
    private static void named(String name, String number) throws ReflectiveOperationException {
        String findings = "NOTHING BEYOND UNLIKE NOUGHT SIZE";
        if (findings.contains(name)) {
            CHECKS.same(name, findings.substring(0, findings.indexOf(name)).split(" ", -1).length, Long.parseLong(number));
        } else {
            CHECKS.same(name, DrawerGloves.class.getField(name).getInt(null), Long.parseLong(number));
        }
    }

    private static void calls(String readme) {
        for (Method m : DrawerGloves.class.getDeclaredMethods()) {
            if (!Modifier.isPublic(m.getModifiers())) continue;
            CHECKS.same("it tells of " + m.getName() + "()", readme.contains("`" + m.getName() + "()`") ? 1 : 0, 1);
        }
    }

    private static void tests(String readme) throws IOException {
        try (DirectoryStream<Path> all = Files.newDirectoryStream(Path.of("src/test/java"), "*Test.java")) {
            for (Path file : all) {
                String name = file.getFileName().toString().replace(".java", "");
                CHECKS.same("it tells of " + name, readme.contains("| " + name + " |") ? 1 : 0, 1);
            }
        }
    }
}
