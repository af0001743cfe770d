import java.io.IOException;
import java.lang.reflect.Field;
import java.lang.reflect.Method;
import java.lang.reflect.Modifier;
import java.nio.file.Files;
import java.nio.file.Path;
import java.util.ArrayList;
import java.util.Arrays;
import java.util.List;
import java.util.Set;
import java.util.TreeSet;
import java.util.regex.Matcher;
import java.util.regex.Pattern;

/** The public face, as the document has it, and the rules of LANGUAGE.md that can be seen from outside. */
final class FaceTest {
    private static final String STATE = " throws IllegalStateException";
    private static final String INDEX = " IndexOutOfBoundsException";
    private static final String ARGUMENT = " IllegalArgumentException";
    private static final String[] FACE = {
        "int feed(int, int, int, int, int, int)", "int message() throws" + ARGUMENT,
        "void deal(int, int) throws" + ARGUMENT, "boolean change(int)" + STATE + INDEX + ARGUMENT,
        "void commit(int)" + STATE + INDEX + ARGUMENT, "void choose(int)" + STATE + ARGUMENT,
        "void share(int)" + STATE + INDEX + ARGUMENT, "void other(int)" + STATE + INDEX + ARGUMENT,
        "boolean right(int)" + STATE + INDEX + ARGUMENT, "int gather()" + STATE, "boolean holds()" + STATE,
        "int show(int, int)", "int output(int)", "int about(int)"
    };
    private static final String[] REFUSED = {"->", "::", "synchronized", "assert ", "finally", "try ", "catch ",
        "Math.", "Object", "float ", "double ", "public static void main", "getClass", "hashCode", "toString"};

    /** All that the class uses of what rule 4 leaves. */
    private static final Set<String> LIBRARY = Set.of("Arrays.fill", "System.arraycopy", "Integer.bitCount");
    private static final Set<Class<?>> CONSTANTS = Set.of(int.class, long.class, boolean.class, char.class,
        String.class, int[].class, long[].class, char[].class, byte[].class);
    private static final int MOST_LINES = 60;

    private FaceTest() {
    }

    public static void main(String[] args) throws IOException {
        members();
        classesInside();
        source();
        Check.end();
    }

    private static void members() {
        Class<?> face = ThresholdBench.class;
        Check.due("modifiers", Modifier.toString(face.getModifiers()), "public final");
        Check.due("constructors", Arrays.toString(face.getDeclaredConstructors()), "[public ThresholdBench()]");
        TreeSet<String> open = new TreeSet<>();
        TreeSet<String> names = new TreeSet<>();
        for (Method method : face.getDeclaredMethods()) {
            if (!Modifier.isPrivate(method.getModifiers())) {
                open.add(told(method));
                names.add(method.getName());
            }
        }
        Check.due("methods", open.toString(), new TreeSet<>(List.of(FACE)).toString());
        for (Field field : face.getDeclaredFields()) {
            boolean none = field.getName().equals("NONE");
            Check.due(field.getName() + " is private", Modifier.isPrivate(field.getModifiers()), !none);
        }
        for (Class<?> any : all()) {
            for (Method method : any.getDeclaredMethods()) {
                boolean ofFace = any == face && !Modifier.isPrivate(method.getModifiers());
                Check.due(any + " " + method.getName() + " bears a public name", names.contains(method.getName()), ofFace);
                Check.due(method + " takes at most seven", method.getParameterCount() <= 7, true);
            }
        }
    }

    private static String told(Method method) {
        StringBuilder text = new StringBuilder(method.getReturnType().getName());
        text.append(' ').append(method.getName()).append(Arrays.toString(method.getParameterTypes())
            .replace('[', '(').replace(']', ')'));
        Class<?>[] thrown = method.getExceptionTypes();
        text.append(thrown.length == 0 ? "" : " throws");
        for (Class<?> one : thrown) {
            text.append(' ').append(one.getSimpleName());
        }
        return text.toString();
    }

    private static List<Class<?>> all() {
        List<Class<?>> all = new ArrayList<>(List.of(ThresholdBench.class.getDeclaredClasses()));
        all.add(ThresholdBench.class);
        return all;
    }

    private static void classesInside() {
        Check.due("at most twelve classes", all().size() <= 12, true);
        for (Class<?> any : all()) {
            int own = 0;
            for (Field field : any.getDeclaredFields()) {
                boolean fixed = Modifier.isStatic(field.getModifiers());
                own += fixed ? 0 : 1;
                Check.due(field + " is final if static", !fixed || Modifier.isFinal(field.getModifiers()), true);
                Check.due(field + " may be static", !fixed || CONSTANTS.contains(field.getType()), true);
            }
            Check.due(any + " has at most twenty fields", own <= 20, true);
            if (any != ThresholdBench.class) {
                int open = Modifier.PUBLIC | Modifier.PROTECTED;
                Check.due(any + " is not open", any.getModifiers() & open, 0);
                Check.due(any + " is static", Modifier.isStatic(any.getModifiers()), true);
            }
        }
    }

    private static void source() throws IOException {
        String text = Files.readString(Path.of("src/main/java/ThresholdBench.java"));
        String code = text.replaceAll("(?s)/\\*.*?\\*/", "").replaceAll("//[^\n]*", "");
        for (String word : REFUSED) {
            Check.due("the code has " + word, code.contains(word), false);
        }
        for (String line : code.split("\n")) {
            if (line.startsWith("import ") || line.startsWith("package ")) {
                Check.due("import", line, "import java.util.Arrays;");
            }
            if (line.contains("throw ")) {
                String thrown = line.trim().replaceAll("IllegalState|IllegalArgument|IndexOutOfBounds", "..");
                Check.due("a throw", thrown, "throw new ..Exception();");
            }
        }
        library(code.replaceAll("import [^\n]*", ""));
        lengths(code);
    }

    private static void library(String code) {
        Set<String> own = new TreeSet<>();
        for (Class<?> any : all()) {
            own.add(any.getSimpleName());
        }
        Matcher used = Pattern.compile("\\b([A-Z]\\w*[a-z]\\w*)\\.(\\w+)").matcher(code);
        while (used.find()) {
            boolean fine = own.contains(used.group(1)) || LIBRARY.contains(used.group());
            Check.due(used.group() + " is of the class or of rule 4", fine, true);
        }
    }

    /** A method begins with a line that ends with a brace, and ends with a brace at the same place. */
    private static void lengths(String code) {
        Matcher method = Pattern.compile("(?m)^( {4}| {8})(?=\\w)[^\\n;=]*\\([^;{]*\\{\\n(?s:.*?)\\n\\1\\}$").matcher(code);
        int methods = 0;
        while (method.find()) {
            methods++;
            String head = method.group().split("\n")[0].trim();
            Check.due(head + " is short", method.group().split("\n").length <= MOST_LINES, true);
        }
        Check.due("methods are found", methods > 80, true);
    }
}
