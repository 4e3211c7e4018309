import java.io.IOException;
import java.lang.reflect.Method;
import java.nio.file.Files;
import java.nio.file.Path;
import java.util.regex.Matcher;
import java.util.regex.Pattern;

/** Makes the calls of README.md's example; each must answer what stands behind it there. */
public final class ReadmeTest {
    private static final Pattern MADE = Pattern.compile("ChoiceBench x = new ChoiceBench\\((\\d+)\\);");
    private static final Pattern CALL = Pattern.compile("x\\.(\\w+)\\(([^)]*)\\); +// (-?\\w+).*");

    public static void main(String[] args) throws IOException, ReflectiveOperationException {
        String text = Files.readString(Path.of("README.md"));
        int begin = text.indexOf("```java\n");
        int end = text.indexOf("```\n", begin + 1);
        Due.yes("README.md has an example", begin >= 0 && end > begin);
        ChoiceBench x = null;
        for (String line : text.substring(begin, end).split("\n")) {
            Matcher made = MADE.matcher(line);
            Matcher call = CALL.matcher(line);
            if (made.matches()) {
                x = new ChoiceBench(Integer.parseInt(made.group(1)));
            } else if (call.matches() && x != null) {
                String got = String.valueOf(answer(x, call.group(1), call.group(2).split(", ")));
                Due.yes(line + " (" + got + ") as it says", got.equals(call.group(3)));
            } else {
                Due.yes("'" + line + "' is the first line of the example", line.equals("```java"));
            }
        }
        Due.end();
    }

    private static Object answer(ChoiceBench x, String name, String[] words)
            throws ReflectiveOperationException {
        for (Method m : ChoiceBench.class.getMethods()) {
            if (m.getName().equals(name) && m.getParameterCount() == words.length) {
                return m.invoke(x, values(words, m.getParameterTypes()));
            }
        }
        return "no such method";
    }

    private static Object[] values(String[] words, Class<?>[] types) {
        Object[] values = new Object[words.length];
        for (int i = 0; i < words.length; i++) {
            if (types[i] == boolean.class) {
                values[i] = Boolean.valueOf(words[i]);
            } else {
                values[i] = Integer.valueOf(words[i]);
            }
        }
        return values;
    }
}
