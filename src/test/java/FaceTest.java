import java.io.IOException;
import java.lang.reflect.Constructor;
import java.lang.reflect.Field;
import java.lang.reflect.Method;
import java.lang.reflect.Modifier;
import java.nio.file.Files;
import java.nio.file.Path;
import java.util.Arrays;
import java.util.Set;
import java.util.TreeSet;
import java.util.regex.Matcher;
import java.util.regex.Pattern;
import java.util.stream.Collectors;

/** The public face is that of the document, and the source keeps to what can be seen of the language's rules. */
public final class FaceTest {
    private static final String SOURCE = "src/main/java/MendedBank.java";
    private static final String[] CONSTANTS = {"int UNKNOWN", "int OUTSIDE", "int STATE", "int FOUND", "int NONE",
        "long LOST"};
    private static final String[] METHODS = {"int code(int,int)", "int column(int)", "int ones(int)", "int word(int)",
        "int syndrome(int)", "int mended(int)", "int write(int,int,int)", "int read(int,int)", "int raw(int,int)",
        "int flip(int,int,int)", "int stick(int,int,int,int)", "int scrub(int)", "int look(int)",
        "int fate(int,int,int)", "int marks(int,int,int)", "int frame(int)", "int place(int)", "int retired(int)",
        "int troubled(int)", "int mends(int)", "int patterns(int,int)", "int weight()", "long safe(int,int,int)",
        "int many(int)"};

    private static int wrong = 0;

    private static void due(String what, Object got, Object want) {
        if (!got.equals(want)) {
            wrong++;
            System.out.println(what + " is " + got + ", due is " + want);
        }
    }

    private static String told(Method m) {
        String types = Arrays.stream(m.getParameterTypes()).map(Class::getName).collect(Collectors.joining(","));
        return m.getReturnType().getName() + " " + m.getName() + "(" + types + ")";
    }

    private static void face() {
        Class<?> face = MendedBank.class;
        due("public final", Modifier.isPublic(face.getModifiers()) && Modifier.isFinal(face.getModifiers()), true);
        Set<String> methods = new TreeSet<>();
        Set<String> names = new TreeSet<>();
        for (Method m : face.getDeclaredMethods()) {
            if (!Modifier.isPrivate(m.getModifiers())) {
                due("public " + m, Modifier.isPublic(m.getModifiers()) && !Modifier.isStatic(m.getModifiers()), true);
                methods.add(told(m));
                names.add(m.getName());
            }
        }
        due("the methods", methods, new TreeSet<>(Arrays.asList(METHODS)));
        Set<String> constants = new TreeSet<>();
        for (Field f : face.getDeclaredFields()) {
            if (!Modifier.isPrivate(f.getModifiers())) {
                due("constant " + f, f.getModifiers(), Modifier.PUBLIC | Modifier.STATIC | Modifier.FINAL);
                constants.add(f.getType().getName() + " " + f.getName());
            }
        }
        due("the constants", constants, new TreeSet<>(Arrays.asList(CONSTANTS)));
        Constructor<?>[] makers = face.getDeclaredConstructors();
        due("one constructor", makers.length, 1);
        due("constructor", makers[0].getParameterCount() == 0 && Modifier.isPublic(makers[0].getModifiers()), true);
        privateNames(face, names);
        for (Class<?> inside : face.getDeclaredClasses()) {
            due("static " + inside, Modifier.isStatic(inside.getModifiers()), true);
            privateNames(inside, names);
            due("fields of " + inside, inside.getDeclaredFields().length <= 25, true);
        }
    }

    private static void privateNames(Class<?> owner, Set<String> publicNames) {
        for (Method m : owner.getDeclaredMethods()) {
            if (Modifier.isPrivate(m.getModifiers())) {
                due("own name for " + m, publicNames.contains(m.getName()), false);
            }
            due("parameters of " + m, m.getParameterCount() <= 7, true);
        }
        for (Field f : owner.getDeclaredFields()) {
            if (Modifier.isStatic(f.getModifiers())) {
                due("final " + f, Modifier.isFinal(f.getModifiers()), true);
            }
        }
    }

    private static void source() throws IOException {
        String text = Files.readString(Path.of(SOURCE)).replaceAll("(?s)/\\*.*?\\*/", "").replaceAll("//[^\n]*", "");
        Matcher barred = Pattern.compile("\\b(throw|throws|try|catch|synchronized|assert|package|double|float)\\b"
            + "|->|::|Exact\\b|System\\.|[^\\x00-\\x7f]").matcher(text);
        while (barred.find()) {
            due("the source's sign", barred.group(), "");
        }
        Matcher imports = Pattern.compile("import ([^;]*);").matcher(text);
        while (imports.find()) {
            due("import", imports.group(1), "java.util.Arrays");
        }
    }

    public static void main(String[] args) throws IOException {
        face();
        source();
        System.out.println(wrong == 0 ? "the face is as due" : wrong + " things are not as due");
        if (wrong != 0) {
            System.exit(1);
        }
    }
}
