import java.io.IOException;
import java.lang.reflect.InvocationTargetException;
import java.lang.reflect.Method;
import java.nio.charset.StandardCharsets;
import java.nio.file.Files;
import java.nio.file.Path;
import java.util.regex.Matcher;
import java.util.regex.Pattern;

/** The calls in README.md answer what README.md says behind them. It is run in the project's directory. */
public final class ReadmeTest {
    private static final int LEAST_CALLS = 60;
    private static final String NEW = "new Twopassworks()";
    private static final Pattern CALL = Pattern.compile(
        "(works|new Twopassworks\\(\\))\\.(\\w+)\\(([-0-9, ]*)\\);\\s+// (\"[^\"]*\"|-?\\d+|true|false|throws \\w+)");

    private ReadmeTest() {
    }

    public static void main(String[] args) throws IOException, IllegalAccessException {
        Twopassworks works = null;
        boolean isCode = false;
        int calls = 0;
        for (String line : Files.readAllLines(Path.of("README.md"), StandardCharsets.UTF_8)) {
            if (line.startsWith("```")) {
                isCode = line.equals("```java");
            } else if (line.equals("Twopassworks works = " + NEW + ";")) {
                works = new Twopassworks();
            } else if (isCode && !line.isEmpty()) {
                Matcher call = CALL.matcher(line);
                if (call.matches()) {
                    Twopassworks asked = call.group(1).equals("works") ? works : new Twopassworks();
                    Due.same(line, call.group(4), answer(asked, call.group(2), call.group(3)));
                    calls++;
                } else {
                    Due.same("README.md has no such call: " + line, true, false);
                }
            }
        }
        Due.same("README.md has its calls", true, calls >= LEAST_CALLS);
        Due.end();
    }

    private static String answer(Twopassworks works, String name, String list) throws IllegalAccessException {
        String[] texts = list.isEmpty() ? new String[0] : list.split(", ");
        Object[] arguments = new Object[texts.length];
        for (int i = 0; i < texts.length; i++) {
            arguments[i] = Integer.valueOf(texts[i]);
        }
        for (Method method : Twopassworks.class.getMethods()) {
            if (method.getName().equals(name) && method.getParameterCount() == arguments.length) {
                try {
                    Object got = method.invoke(works, arguments);
                    return got instanceof String ? "\"" + got + "\"" : String.valueOf(got);
                } catch (InvocationTargetException e) {
                    return "throws " + e.getCause().getClass().getSimpleName();
                }
            }
        }
        return "no method " + name;
    }
}
