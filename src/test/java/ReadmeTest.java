import java.io.IOException;
import java.lang.reflect.Method;
import java.lang.reflect.Modifier;
import java.nio.file.Files;
import java.nio.file.Path;
import java.util.List;
import java.util.regex.Matcher;
import java.util.regex.Pattern;
import java.util.stream.Stream;

/** README.md: what its examples say the calls answer, and that it names every call and every test. */
public final class ReadmeTest {
    private static final Due DUE = new Due("ReadmeTest");
    private static final String MADE = "KineticCup cup = new KineticCup();";
    private static final Pattern CALL = Pattern.compile("cup\\.(\\w+)\\(((?:'.'|[^()'])*)\\);\\s*");
    private static final Pattern ANSWER = Pattern.compile("// (-?\\w+).*");

    public static void main(String[] args) throws Exception {
        List<String> lines = Files.readAllLines(Path.of("README.md"));
        examples(lines);
        names(String.join("\n", lines));
        DUE.end();
    }

    private static void examples(List<String> lines) throws ReflectiveOperationException {
        KineticCup cup = null;
        boolean inside = false;
        int answers = 0;
        for (String line : lines) {
            if (line.startsWith("```")) {
                inside = line.equals("```java");
            } else if (inside && line.equals(MADE)) {
                cup = new KineticCup();
            } else if (inside) {
                answers += example(cup, line);
            }
        }
        DUE.isTrue("answers in examples: " + answers, answers > 40);
    }

    /** Makes the calls of a line; 1 if it says what the last one answers. */
    private static int example(KineticCup cup, String line) throws ReflectiveOperationException {
        Matcher call = CALL.matcher(line);
        long answer = 0;
        int end = 0;
        while (call.find() && call.start() == end) {
            answer = call(cup, call.group(1), call.group(2));
            end = call.end();
        }
        String rest = line.substring(end);
        DUE.isTrue("a call stands in: " + line, end > 0);
        Matcher due = ANSWER.matcher(rest);
        if (!due.matches()) {
            DUE.isTrue("nothing else stands in: " + line, rest.isEmpty());
            return 0;
        }
        DUE.is(line, answer, number(due.group(1)));
        return 1;
    }

    private static long call(KineticCup cup, String name, String text) throws ReflectiveOperationException {
        String[] parts = text.isEmpty() ? new String[0] : text.split(", ");
        Object[] values = new Object[parts.length];
        for (int i = 0; i < parts.length; i++) {
            values[i] = value(parts[i]);
        }
        for (Method method : KineticCup.class.getMethods()) {
            if (method.getName().equals(name) && method.getParameterCount() == values.length) {
                return ((Number) method.invoke(cup, values)).longValue();
            }
        }
        throw new IllegalArgumentException("there is no call " + name + " of " + text);
    }

    private static Object value(String text) {
        if (text.equals("true") || text.equals("false")) {
            return Boolean.valueOf(text);
        }
        return text.startsWith("'") ? text.charAt(1) : Integer.parseInt(text);
    }

    private static long number(String text) throws ReflectiveOperationException {
        return text.matches("[A-Z]+") ? KineticCup.class.getField(text).getInt(null) : Long.parseLong(text);
    }

    private static void names(String text) throws IOException {
        for (Method method : KineticCup.class.getDeclaredMethods()) {
            if (Modifier.isPublic(method.getModifiers())) {
                String name = method.getName();
                DUE.isTrue("README names the call " + name, text.contains("`" + name + "("));
            }
        }
        try (Stream<Path> files = Files.list(Path.of("src/test/java"))) {
            for (Path file : files.toList()) {
                String name = file.getFileName().toString().replace(".java", "");
                DUE.isTrue("README names " + name, text.contains("`" + name + "`"));
            }
        }
    }
}
