import java.lang.reflect.Method;
import java.nio.file.Files;
import java.nio.file.Path;
import java.util.HashMap;
import java.util.Map;
import java.util.regex.Matcher;
import java.util.regex.Pattern;

/** Runs the calls that README.md shows; each must answer what stands behind it there. */
final class ReadmeTest {
    private static final String OBJECT = "TenForOne village = new TenForOne();";
    private static final Pattern CALL =
        Pattern.compile("(?:int (\\w+) = )?village\\.(\\w+)\\((.*?)\\); +// (-?\\d+)\\b.*");

    private ReadmeTest() {
    }

    public static void main(String[] args) throws Exception {
        String[] parts = Files.readString(Path.of("README.md")).split("```");
        boolean isOne = parts.length == 3 && parts[1].startsWith("java\n");
        Due.due("README.md has one example, in Java", isOne ? 1 : 0, 1);
        if (isOne) {
            runs(parts[1].split("\n"));
        }
        Due.end();
    }

    private static void runs(String[] lines) throws Exception {
        TenForOne village = new TenForOne();
        Map<String, Integer> numbers = new HashMap<>();
        for (int i = 1; i < lines.length; i++) {
            String line = lines[i];
            if (line.isEmpty() || line.startsWith("//") || line.equals(OBJECT)) {
                continue;
            }
            Matcher call = CALL.matcher(line);
            Due.due("'" + line + "' is a call with an answer", call.matches() ? 1 : 0, 1);
            if (call.matches()) {
                int answer = answerOf(village, call.group(2), call.group(3), numbers);
                Due.due(line, answer, Integer.parseInt(call.group(4)));
                numbers.put(String.valueOf(call.group(1)), answer);
            }
        }
    }

    private static int answerOf(TenForOne village, String name, String told, Map<String, Integer> numbers)
            throws Exception {
        String[] values = told.isEmpty() ? new String[0] : told.split(", ");
        for (Method method : TenForOne.class.getDeclaredMethods()) {
            if (method.getName().equals(name)) {
                return (int) method.invoke(village, argumentsOf(method.getParameterTypes(), values, numbers));
            }
        }
        throw new IllegalStateException("README.md calls " + name + ", which is not there");
    }

    private static Object[] argumentsOf(Class<?>[] types, String[] values, Map<String, Integer> numbers) {
        Object[] arguments = new Object[values.length];
        for (int i = 0; i < values.length; i++) {
            if (numbers.containsKey(values[i])) {
                arguments[i] = numbers.get(values[i]);
            } else if (types[i] == boolean.class) {
                arguments[i] = Boolean.valueOf(values[i]);
            } else if (types[i] == long.class) {
                arguments[i] = Long.decode(values[i].replace("L", ""));
            } else {
                arguments[i] = Integer.valueOf(values[i]);
            }
        }
        return arguments;
    }
}
