import java.io.IOException;
import java.lang.reflect.Method;
import java.nio.file.Files;
import java.nio.file.Path;
import java.util.regex.Matcher;
import java.util.regex.Pattern;

/** The example in README.md: each call there answers what its comment says first. */
public final class ReadmeTests {
    private static final Check check = new Check("ReadmeTests");
    private static final Pattern CALL = Pattern.compile("(?:int \\w+ = )?city\\.(\\w+)\\((.*)\\);\\s+// (-?\\d+)\\b.*");
    private static final String MADE = "WaterCity city = new WaterCity();";

    public static void main(String[] args) throws IOException, ReflectiveOperationException {
        String example = Files.readString(Path.of("README.md")).split("```java\n", 2)[1].split("```", 2)[0];
        WaterCity city = null;
        int calls = 0;
        for (String line : example.split("\n")) {
            Matcher call = CALL.matcher(line);
            if (line.equals(MADE)) {
                city = new WaterCity();
            } else if (call.matches()) {
                calls++;
                check.same(line, answer(city, call.group(1), call.group(2)), Long.parseLong(call.group(3)));
            } else {
                check.isTrue("a line that can be looked at: " + line, line.isBlank() || line.startsWith("//"));
            }
        }
        check.isTrue("the example has calls", calls > 0);
        check.end();
    }

    private static long answer(WaterCity city, String name, String told) throws ReflectiveOperationException {
        String[] words = told.isEmpty() ? new String[0] : told.split(", ");
        for (Method method : WaterCity.class.getMethods()) {
            if (method.getName().equals(name) && method.getParameterCount() == words.length) {
                return ((Number) method.invoke(city, values(method.getParameterTypes(), words))).longValue();
            }
        }
        throw new IllegalArgumentException("no call " + name + "(" + told + ")");
    }

    private static Object[] values(Class<?>[] types, String[] words) {
        Object[] values = new Object[words.length];
        for (int i = 0; i < words.length; i++) {
            if (types[i] == boolean.class) {
                values[i] = Boolean.valueOf(words[i]);
            } else if (types[i] == long.class) {
                values[i] = number(words[i]);
            } else {
                values[i] = (int) number(words[i]);
            }
        }
        return values;
    }

    private static long number(String word) {
        if (word.equals("WaterCity.NONE")) {
            return WaterCity.NONE;
        }
        return word.startsWith("'") ? word.charAt(1) : Long.parseLong(word);
    }
}
