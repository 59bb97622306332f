import java.io.IOException;
import java.lang.reflect.Constructor;
import java.lang.reflect.Field;
import java.lang.reflect.Method;
import java.lang.reflect.Modifier;
import java.nio.file.Files;
import java.nio.file.Path;
import java.util.Arrays;
import java.util.Set;
import java.util.TreeSet;
import java.util.regex.Matcher;
import java.util.regex.Pattern;
import java.util.stream.Collectors;

/** The public face is that of the document, and the source keeps to what can be seen of the language's rules. */
public final class FaceTest {
    private static final String SOURCE = "src/main/java/MendedBank.java";
    private static final String DOCUMENT = "../shared/DOC.md";
    private static final int MOST_LINES = 60;
    private static final int MOST_CLASSES = 12;

    private static int wrong = 0;

    private static void due(String what, Object got, Object want) {
        if (!got.equals(want)) {
            wrong++;
            System.out.println(what + " is " + got + ", due is " + want);
        }
    }

    private static String told(Method m) {
        String types = Arrays.stream(m.getParameterTypes()).map(Class::getName).collect(Collectors.joining(","));
        return m.getReturnType().getName() + " " + m.getName() + "(" + types + ")";
    }

    /** The document's own telling of the face. */
    private static String faceOf(String document) {
        Matcher block = Pattern.compile("(?s)```java\n(.*?)```").matcher(document);
        return block.find() ? block.group(1) : "";
    }

    private static Set<String> methodsOf(String face) {
        Set<String> methods = new TreeSet<>();
        Matcher line = Pattern.compile("public (\\w+ \\w+)\\(([^)]*)\\);").matcher(face);
        while (line.find()) {
            methods.add(line.group(1) + "(" + line.group(2).replaceAll(" \\w+(,|$)", "$1").replace(" ", "") + ")");
        }
        return methods;
    }

    private static Set<String> constantsOf(String face) {
        Set<String> constants = new TreeSet<>();
        Matcher line = Pattern.compile("public static final (\\w+) ([^;]*);").matcher(face);
        while (line.find()) {
            for (String constant : line.group(2).split(", ")) {
                String value = constant.replace("Long.MIN_VALUE", Long.toString(Long.MIN_VALUE));
                constants.add(line.group(1) + " " + value);
            }
        }
        return constants;
    }

    private static void face(String told) throws IllegalAccessException {
        due("the document's face, in methods", methodsOf(told).size(), 24);
        due("the document's face, in constants", constantsOf(told).size(), 6);
        Class<?> face = MendedBank.class;
        due("public final", Modifier.isPublic(face.getModifiers()) && Modifier.isFinal(face.getModifiers()), true);
        Set<String> methods = new TreeSet<>();
        Set<String> names = new TreeSet<>();
        for (Method m : face.getDeclaredMethods()) {
            if (!Modifier.isPrivate(m.getModifiers())) {
                due("public " + m, Modifier.isPublic(m.getModifiers()) && !Modifier.isStatic(m.getModifiers()), true);
                methods.add(told(m));
                names.add(m.getName());
            }
        }
        due("the methods", methods, methodsOf(told));
        Set<String> constants = new TreeSet<>();
        for (Field f : face.getDeclaredFields()) {
            if (!Modifier.isPrivate(f.getModifiers())) {
                due("constant " + f, f.getModifiers(), Modifier.PUBLIC | Modifier.STATIC | Modifier.FINAL);
                constants.add(f.getType().getName() + " " + f.getName() + " = " + f.get(null));
            }
        }
        due("the constants", constants, constantsOf(told));
        Constructor<?>[] makers = face.getDeclaredConstructors();
        due("one constructor", makers.length, 1);
        due("constructor", makers[0].getParameterCount() == 0 && Modifier.isPublic(makers[0].getModifiers()), true);
        privateNames(face, names);
        for (Class<?> inside : face.getDeclaredClasses()) {
            due("static " + inside, Modifier.isStatic(inside.getModifiers()), true);
            privateNames(inside, names);
            due("fields of " + inside, inside.getDeclaredFields().length <= 25, true);
        }
    }

    private static void privateNames(Class<?> owner, Set<String> publicNames) {
        for (Method m : owner.getDeclaredMethods()) {
            if (Modifier.isPrivate(m.getModifiers())) {
                due("own name for " + m, publicNames.contains(m.getName()), false);
            }
            due("parameters of " + m, m.getParameterCount() <= 7, true);
        }
        for (Field f : owner.getDeclaredFields()) {
            if (Modifier.isStatic(f.getModifiers())) {
                due("final " + f, Modifier.isFinal(f.getModifiers()), true);
            }
        }
    }

    /** Behind each of the document's headings for calls the source has these calls and no other public ones. */
    private static void headings(String document, String source) {
        Matcher told = Pattern.compile("Ahead of the calls (.*) the interface says: (---- [^.]*)\\.").matcher(document);
        int count = 0;
        while (told.find()) {
            count++;
            String part = source.substring(source.indexOf("// " + told.group(2) + "\n") + 1);
            int end = part.indexOf("// ----");
            Set<String> got = new TreeSet<>();
            Matcher calls = Pattern.compile("\n    public \\w+ (\\w+)\\(").matcher(end < 0 ? part : part.substring(0, end));
            while (calls.find()) {
                got.add(calls.group(1));
            }
            due("calls behind " + told.group(2), got, new TreeSet<>(Arrays.asList(told.group(1).replace("`", "").split(", "))));
        }
        due("headings for calls", count, 3);
    }

    private static void source(String whole) {
        String text = whole.replaceAll("(?s)/\\*.*?\\*/", "").replaceAll("//[^\n]*", "");
        Matcher barred = Pattern.compile("\\b(throw|throws|try|catch|synchronized|assert|package|double|float)\\b"
            + "|->|::|Exact\\b|System\\.|[^\\x00-\\x7f]").matcher(text);
        while (barred.find()) {
            due("the source's sign", barred.group(), "");
        }
        Matcher imports = Pattern.compile("import ([^;]*);").matcher(text);
        while (imports.find()) {
            due("import", imports.group(1), "java.util.Arrays");
        }
        due("few classes", MendedBank.class.getDeclaredClasses().length < MOST_CLASSES, true);
        methodLengths(whole);
    }

    /** A method begins with a line that ends in ") {" at the depth of members, and ends with a brace at that depth. */
    private static void methodLengths(String whole) {
        Matcher method = Pattern.compile("(?m)^(    |        )(\\w[^\n]*\\)) \\{\n(?s:(.*?))^\\1\\}").matcher(whole);
        int count = 0;
        while (method.find()) {
            count++;
            due("short " + method.group(2), method.group(3).split("\n").length < MOST_LINES, true);
        }
        due("methods seen", count > 50, true);
    }

    public static void main(String[] args) throws IOException, IllegalAccessException {
        String document = Files.readString(Path.of(DOCUMENT));
        String whole = Files.readString(Path.of(SOURCE));
        face(faceOf(document));
        headings(document, whole);
        source(whole);
        System.out.println(wrong == 0 ? "the face is as due" : wrong + " things are not as due");
        if (wrong != 0) {
            System.exit(1);
        }
    }
}
