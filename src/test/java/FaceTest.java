import java.io.IOException;
import java.lang.reflect.Constructor;
import java.lang.reflect.Field;
import java.lang.reflect.Method;
import java.lang.reflect.Modifier;
import java.nio.file.Files;
import java.nio.file.Path;
import java.util.Set;
import java.util.TreeSet;
import java.util.regex.Matcher;
import java.util.regex.Pattern;

/** The public face of the document, and those rules of LANGUAGE.md that can be seen by a test. */
public final class FaceTest {
    private static final String[] CONSTANTS = {
        "int NO_OBJECT = -1", "int NOT_DIRECTORY = -2", "int IS_DIRECTORY = -3", "int EXISTS = -4",
        "int FULL = -5", "int NO_SPACE = -6", "int RANGE = -7", "int NOT_EMPTY = -8", "int OFF = -9",
        "int LOOP = -10", "long UNREADABLE = 4294967296", "long REFUSED = 8589934592",
    };
    private static final String[] METHODS = {
        "int create(int, int, boolean)", "int write(int, int, int)", "long read(int, int)",
        "int truncate(int, int)", "int move(int, int, int)", "int remove(int)", "int find(int, int)",
        "int size(int)", "int parentOf(int)", "long nameOf(int)", "int checkpoint()",
        "int mount(boolean)", "void cut(int)", "boolean flip(int, int, int)", "boolean wear(int)",
        "int tags(int, int)", "int free()", "int erases(int)", "int steps()",
    };
    private static final String FORBIDDEN = "throw|throws|try|catch|synchronized|assert|import"
            + "|System|Thread|Object|package|protected|HashMap|Random";

    public static void main(String[] args) throws Exception {
        constants();
        methods();
        constructor();
        nestedClasses();
        everyClass();
        source();
        Check.end();
    }

    private static void constants() throws IllegalAccessException {
        Check.begin("the constants");
        Set<String> found = new TreeSet<>();
        for (Field field : SpareTagFlash.class.getDeclaredFields()) {
            if (!Modifier.isPrivate(field.getModifiers())) {
                found.add(field.getType() + " " + field.getName() + " = " + field.get(null));
                Check.due(field.getName(), field.getModifiers(),
                        Modifier.PUBLIC | Modifier.STATIC | Modifier.FINAL);
            }
        }
        Check.due("the set", found.toString(), new TreeSet<>(Set.of(CONSTANTS)).toString());
    }

    private static void methods() {
        Check.begin("the methods");
        Set<String> found = new TreeSet<>();
        Set<String> names = new TreeSet<>();
        for (Method method : SpareTagFlash.class.getDeclaredMethods()) {
            if (!Modifier.isPrivate(method.getModifiers())) {
                StringBuilder text = new StringBuilder();
                for (Class<?> type : method.getParameterTypes()) {
                    text.append(text.length() == 0 ? "" : ", ").append(type);
                }
                found.add(method.getReturnType() + " " + method.getName() + "(" + text + ")");
                names.add(method.getName());
                Check.due(method.getName(), method.getModifiers(), Modifier.PUBLIC);
            }
        }
        Check.due("the set", found.toString(), new TreeSet<>(Set.of(METHODS)).toString());
        for (Method method : SpareTagFlash.class.getDeclaredMethods()) {
            if (Modifier.isPrivate(method.getModifiers())) {
                Check.due(method.getName(), names.contains(method.getName()), false);
            }
        }
    }

    private static void constructor() {
        Check.begin("the constructor");
        Constructor<?>[] all = SpareTagFlash.class.getDeclaredConstructors();
        Check.due("their number", all.length, 1);
        Check.due("public", all[0].getModifiers(), Modifier.PUBLIC);
        Check.due("parameters", all[0].getParameterCount(), 0);
        Check.due("the class", SpareTagFlash.class.getModifiers(), Modifier.PUBLIC | Modifier.FINAL);
    }

    private static void nestedClasses() {
        Check.begin("the classes inside");
        for (Class<?> nested : SpareTagFlash.class.getDeclaredClasses()) {
            Check.due(nested.getName(), Modifier.isStatic(nested.getModifiers()), true);
            Check.due(nested.getName(), Modifier.isPublic(nested.getModifiers()), false);
            Check.due(nested.getName() + " fields", nested.getDeclaredFields().length <= 20, true);
            for (Field field : nested.getDeclaredFields()) {
                int modifiers = field.getModifiers();
                boolean changing = Modifier.isStatic(modifiers) && !Modifier.isFinal(modifiers);
                Check.due(field.getName(), changing, false);
            }
        }
    }

    private static void everyClass() {
        Check.begin("every class");
        Set<String> face = new TreeSet<>();
        for (Method method : SpareTagFlash.class.getMethods()) {
            face.add(method.getName());
        }
        Class<?>[] nested = SpareTagFlash.class.getDeclaredClasses();
        Check.due("the number of classes", nested.length < 12, true);
        oneClass(SpareTagFlash.class);
        for (Class<?> inside : nested) {
            oneClass(inside);
            for (Method method : inside.getDeclaredMethods()) {
                Check.due(method.getName(), face.contains(method.getName()), false);
            }
        }
    }

    private static void oneClass(Class<?> type) {
        for (Field field : type.getDeclaredFields()) {
            if (Modifier.isStatic(field.getModifiers())) {
                Check.due(field.getName() + " final", Modifier.isFinal(field.getModifiers()), true);
                Check.due(field.getName() + " plain", field.getType().isPrimitive(), true);
            }
        }
        for (Method method : type.getDeclaredMethods()) {
            Check.due(method.getName() + " parameters", method.getParameterCount() <= 7, true);
        }
    }

    /** Every line of the file that opens a method, with the line that closes it. */
    private static void methodLengths(String text) {
        Matcher method = Pattern.compile("(?m)^( +)\\w[\\w ]*\\([^;\\n]*\\) \\{$").matcher(text);
        int seen = 0;
        while (method.find()) {
            int end = text.indexOf("\n" + method.group(1) + "}\n", method.start());
            long lines = text.substring(method.start(), end).lines().count() + 1;
            Check.due(method.group().trim() + " is short", lines <= 60, true);
            seen++;
        }
        Check.due("methods were seen", seen >= METHODS.length, true);
    }

    private static void source() throws IOException {
        Check.begin("the source");
        String text = Files.readString(Path.of("src/main/java/SpareTagFlash.java"));
        String code = text.replaceAll("(?s)/\\*.*?\\*/", "").replaceAll("//.*", "");
        Matcher matcher = Pattern.compile("\\b(" + FORBIDDEN + ")\\b|->|::").matcher(code);
        while (matcher.find()) {
            Check.due(matcher.group(), true, false);
        }
        methodLengths(text);
        Check.due("all characters are plain", text.chars().allMatch(c -> c < 128), true);
    }
}
