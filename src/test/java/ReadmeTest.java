import java.io.IOException;
import java.lang.reflect.Method;
import java.nio.file.Files;
import java.nio.file.Path;
import java.util.regex.Matcher;
import java.util.regex.Pattern;

/** The calls that README.md shows, asked of one object in their order: each answers what stands behind it. */
public final class ReadmeTest {
    private static final Pattern CALL = Pattern.compile("clock\\.(\\w+)\\(([^()]*)\\);\\s+// (-?\\d+)\\b.*");
    private static final Pattern DAY = Pattern.compile("String day = ((?:\"[^\"]*\"|[\\s+])+);");
    private static final int SHOWN_AT_LEAST = 40;

    public static void main(String[] args) throws Exception {
        String readme = Files.readString(Path.of("README.md"));
        StepClock clock = new StepClock();
        Checks.type(clock, dayOf(readme));
        int shown = 0;
        boolean code = false;
        for (String line : readme.split("\n")) {
            code = line.startsWith("```") ? line.equals("```java") : code;
            Matcher call = CALL.matcher(line);
            if (code && call.matches()) {
                Checks.due(line, ask(clock, call.group(1), call.group(2)), Long.parseLong(call.group(3)));
                shown++;
            } else if (code && line.startsWith("clock.")) {
                Checks.due(line, "no answer that can be read", "a number behind //");
            }
        }
        Checks.due("README.md shows " + shown + " calls", shown >= SHOWN_AT_LEAST ? 1 : 0, 1);
        Checks.end("ReadmeTest");
    }

    private static String dayOf(String readme) throws IOException {
        Matcher day = DAY.matcher(readme);
        if (!day.find()) {
            throw new IOException("README.md shows no day");
        }
        return day.group(1).replaceAll("\"\\s*\\+\\s*\"", "").replace("\"", "").strip();
    }

    private static long ask(StepClock clock, String name, String told) throws Exception {
        String[] numbers = told.isBlank() ? new String[0] : told.split(",");
        for (Method method : StepClock.class.getMethods()) {
            if (method.getName().equals(name) && method.getParameterCount() == numbers.length) {
                return ((Number) method.invoke(clock, argumentsFor(method, numbers))).longValue();
            }
        }
        throw new NoSuchMethodException(name + "(" + told + ")");
    }

    private static Object[] argumentsFor(Method method, String[] numbers) {
        Object[] arguments = new Object[numbers.length];
        for (int i = 0; i < numbers.length; i++) {
            String number = numbers[i].strip();
            long value = Long.decode(number.endsWith("L") ? number.substring(0, number.length() - 1) : number);
            if (method.getParameterTypes()[i] == long.class) {
                arguments[i] = value;
            } else {
                arguments[i] = (int) value;
            }
        }
        return arguments;
    }
}
