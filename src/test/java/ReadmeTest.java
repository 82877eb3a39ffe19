import java.io.IOException;
import java.lang.reflect.InvocationTargetException;
import java.lang.reflect.Method;
import java.lang.reflect.Modifier;
import java.nio.file.Files;
import java.nio.file.Path;
import java.util.HashSet;
import java.util.List;
import java.util.Set;
import java.util.regex.Matcher;
import java.util.regex.Pattern;

/** The example of README.md answers what stands behind its calls, and the page names every method. */
public final class ReadmeTest {
    private static final Check CHECK = new Check("ReadmeTest");
    private static final Pattern TEXT = Pattern.compile("for \\(char c : \"([^\"]*)\"\\.toCharArray\\(\\)\\) \\{");
    private static final Pattern CALL = Pattern.compile("x\\.(\\w+)\\(([^)]*)\\); +// (-?\\d+|throws \\w+)\\b.*");
    private static final int CALLS = 17;

    private static Method method(String name) {
        for (Method m : PolytopeDescent.class.getDeclaredMethods()) {
            if (Modifier.isPublic(m.getModifiers()) && m.getName().equals(name)) {
                return m;
            }
        }
        throw new IllegalStateException("README.md calls " + name + ", which there is not");
    }

    private static Object argument(Class<?> type, String word) {
        if (type == boolean.class) {
            return Boolean.valueOf(word);
        }
        return type == long.class ? (Object) Long.valueOf(word) : (Object) Integer.valueOf(word);
    }

    private static String answer(PolytopeDescent x, String name, String words) throws IllegalAccessException {
        Method m = method(name);
        Class<?>[] types = m.getParameterTypes();
        String[] parts = words.isEmpty() ? new String[0] : words.split(", ");
        Object[] arguments = new Object[types.length];
        for (int i = 0; i < types.length; i++) {
            arguments[i] = argument(types[i], parts[i]);
        }
        try {
            return String.valueOf(m.invoke(x, arguments));
        } catch (InvocationTargetException e) {
            return "throws " + e.getCause().getClass().getSimpleName();
        }
    }

    private static void example(List<String> lines) throws IllegalAccessException {
        PolytopeDescent x = new PolytopeDescent();
        int calls = 0;
        for (String line : lines) {
            Matcher text = TEXT.matcher(line);
            if (text.matches()) {
                Check.type(x, text.group(1));
            }
            Matcher call = CALL.matcher(line);
            if (call.matches()) {
                calls++;
                CHECK.same(line, answer(x, call.group(1), call.group(2)), call.group(3));
            }
        }
        CHECK.due("calls of the example", calls, CALLS);
    }

    private static void methods(String page) {
        Set<String> named = new HashSet<>();
        Matcher word = Pattern.compile("`(\\w+)`").matcher(page);
        while (word.find()) {
            named.add(word.group(1));
        }
        for (Method m : PolytopeDescent.class.getDeclaredMethods()) {
            if (Modifier.isPublic(m.getModifiers())) {
                CHECK.isTrue("the page names " + m.getName(), named.contains(m.getName()));
            }
        }
    }

    public static void main(String[] args) throws IOException, IllegalAccessException {
        Path page = Path.of("README.md");
        example(Files.readAllLines(page));
        methods(Files.readString(page));
        CHECK.close();
    }
}
