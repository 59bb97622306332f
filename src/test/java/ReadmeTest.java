import java.io.IOException;
import java.lang.reflect.Field;
import java.lang.reflect.Method;
import java.lang.reflect.Modifier;
import java.nio.file.DirectoryStream;
import java.nio.file.Files;
import java.nio.file.Path;
import java.util.Set;
import java.util.TreeSet;
import java.util.regex.Matcher;
import java.util.regex.Pattern;

/** README.md's examples answer what it says, and it names all there is to use and to run. */
public final class ReadmeTest {
    private static final Pattern EXAMPLE = Pattern.compile("(?s)```java\n(.*?)```");
    private static final Pattern LINE = Pattern.compile("(bank\\..*);\\s+// (-?\\d+)\\b.*");
    private static final Pattern CALL = Pattern.compile("bank\\.(\\w+)\\((.*)\\)");

    private static final Set<String> called = new TreeSet<>();
    private static int wrong = 0;

    private static void fail(String how) {
        wrong++;
        System.out.println("README.md: " + how);
    }

    /** A call's answer; its arguments are numbers, shifts of numbers, or one call. */
    private static long answer(MendedBank bank, String call) throws ReflectiveOperationException {
        Matcher parts = CALL.matcher(call);
        if (!parts.matches()) {
            throw new NoSuchMethodException(call);
        }
        String inside = parts.group(2).trim();
        String[] texts = inside.startsWith("bank.") ? new String[] {inside}
            : inside.isEmpty() ? new String[0] : inside.split(",");
        Object[] numbers = new Object[texts.length];
        Class<?>[] types = new Class<?>[texts.length];
        for (int i = 0; i < texts.length; i++) {
            numbers[i] = (int) (texts[i].startsWith("bank.") ? answer(bank, texts[i]) : number(texts[i]));
            types[i] = int.class;
        }
        called.add(parts.group(1));
        Method method = MendedBank.class.getMethod(parts.group(1), types);
        return ((Number) method.invoke(bank, numbers)).longValue();
    }

    private static int number(String text) {
        String[] sides = text.split("<<");
        int left = Integer.parseInt(sides[0].trim());
        return sides.length == 1 ? left : left << Integer.parseInt(sides[1].trim());
    }

    private static void runExample(String lines) {
        MendedBank bank = null;
        for (String line : lines.split("\n")) {
            Matcher told = LINE.matcher(line);
            if (line.equals("MendedBank bank = new MendedBank();")) {
                bank = new MendedBank();
            } else if (bank == null || !told.matches()) {
                fail("can't be run: " + line);
            } else {
                dueAnswer(bank, told.group(1), Long.parseLong(told.group(2)));
            }
        }
    }

    private static void dueAnswer(MendedBank bank, String call, long want) {
        try {
            long got = answer(bank, call);
            if (got != want) {
                fail(call + " answered " + got + ", it says " + want);
            }
        } catch (ReflectiveOperationException | NumberFormatException missing) {
            fail("can't be called: " + call + ", " + missing);
        }
    }

    private static void dueNamed(String text, String name) {
        if (!text.contains(name)) {
            fail("does not name " + name);
        }
    }

    private static void namesAll(String text) throws IOException {
        for (Method method : MendedBank.class.getDeclaredMethods()) {
            if (Modifier.isPublic(method.getModifiers())) {
                dueNamed(text, "| `" + method.getName() + "(");
                if (!called.contains(method.getName())) {
                    fail("has no example of " + method.getName());
                }
            }
        }
        for (Field field : MendedBank.class.getDeclaredFields()) {
            if (Modifier.isPublic(field.getModifiers())) {
                dueNamed(text, "`" + field.getName() + "`");
            }
        }
        try (DirectoryStream<Path> tests = Files.newDirectoryStream(Path.of("src/test/java"), "*.java")) {
            for (Path test : tests) {
                dueNamed(text, "`" + test.getFileName().toString().replace(".java", "") + "`");
            }
        }
        dueNamed(text, "\n.ci/run\n");
        dueNamed(text, "512 calls");
    }

    public static void main(String[] args) throws IOException {
        String text = Files.readString(Path.of("README.md"));
        Matcher examples = EXAMPLE.matcher(text);
        int count = 0;
        while (examples.find()) {
            runExample(examples.group(1));
            count++;
        }
        if (count == 0) {
            fail("has no example");
        }
        namesAll(text);
        System.out.println(wrong == 0 ? count + " examples as README.md says" : wrong + " things are not as it says");
        if (wrong != 0) {
            System.exit(1);
        }
    }
}
