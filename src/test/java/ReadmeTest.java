import java.io.IOException;
import java.lang.reflect.Field;
import java.lang.reflect.Method;
import java.lang.reflect.Modifier;
import java.nio.file.Files;
import java.nio.file.Path;
import java.util.HashMap;
import java.util.Map;
import java.util.regex.Matcher;
import java.util.regex.Pattern;

/** What README.md tells of the class: its example is run, and no call or constant is left out. */
public final class ReadmeTest {
    private static final Pattern CALL =
            Pattern.compile("(?:(?:(?:int|long) )?(\\w+) = )?flash\\.(\\w+)\\((.*)\\); *// (-?\\w+).*");

    private final SpareTagFlash flash = new SpareTagFlash();
    private final Map<String, Long> variables = new HashMap<>();
    private int calls = 0;

    public static void main(String[] args) throws Exception {
        String readme = Files.readString(Path.of("README.md"));
        new ReadmeTest().example(readme);
        allTold(readme);
        testsTold(readme);
        Check.end();
    }

    private void example(String readme) throws ReflectiveOperationException {
        Check.begin("the example of README.md");
        int start = readme.indexOf("```java");
        for (String line : readme.substring(start, readme.indexOf("```", start + 3)).split("\n")) {
            Matcher call = CALL.matcher(line);
            if (call.matches()) {
                calls++;
                make(line, call);
            } else if (!line.contains("new SpareTagFlash()") && line.contains("flash")) {
                Check.due(line, "a line without its answer", "a call with its answer");
            }
        }
        Check.due("the number of calls", calls, 8);
    }

    private void make(String line, Matcher call) throws ReflectiveOperationException {
        Method method = method(call.group(2));
        String[] texts = call.group(3).split(", ");
        Object[] values = new Object[texts.length];
        for (int i = 0; i < texts.length; i++) {
            boolean truth = method.getParameterTypes()[i] == boolean.class;
            values[i] = truth ? (Object) Boolean.valueOf(texts[i]) : (Object) (int) number(texts[i]);
        }
        Object answer = method.invoke(flash, values);
        if (answer instanceof Number) {
            long got = ((Number) answer).longValue();
            Check.due(line, got, number(call.group(4)));
            variables.put(call.group(1), got);
        }
    }

    /** A number written out, a variable of the example, or a constant of the class. */
    private long number(String text) throws ReflectiveOperationException {
        if (text.matches("-?\\d+")) {
            return Long.parseLong(text);
        }
        Long value = variables.get(text);
        return value != null ? value : SpareTagFlash.class.getField(text).getLong(null);
    }

    private static Method method(String name) throws NoSuchMethodException {
        for (Method method : SpareTagFlash.class.getDeclaredMethods()) {
            if (method.getName().equals(name)) {
                return method;
            }
        }
        throw new NoSuchMethodException(name);
    }

    private static void allTold(String readme) {
        Check.begin("README.md");
        for (Method method : SpareTagFlash.class.getDeclaredMethods()) {
            if (Modifier.isPublic(method.getModifiers())) {
                Check.due(method.getName(), readme.contains("`" + method.getName() + "("), true);
            }
        }
        for (Field field : SpareTagFlash.class.getFields()) {
            Check.due(field.getName(), readme.contains("`" + field.getName() + "`"), true);
        }
    }

    private static void testsTold(String readme) throws IOException {
        try (var files = Files.newDirectoryStream(Path.of("src/test/java"), "*Test.java")) {
            for (Path file : files) {
                String name = file.getFileName().toString().replace(".java", "");
                Check.due(name, readme.contains("`" + name + "`"), true);
            }
        }
    }
}
