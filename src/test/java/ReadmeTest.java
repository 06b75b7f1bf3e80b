import java.io.IOException;
import java.lang.reflect.InvocationTargetException;
import java.lang.reflect.Method;
import java.nio.file.Files;
import java.nio.file.Path;
import java.util.List;
import java.util.Set;
import java.util.TreeSet;
import java.util.regex.Matcher;
import java.util.regex.Pattern;

/** README.md: the calls of its example answer what it says behind them, and it uses every method of the face. */
public final class ReadmeTest {
    // Calls with numbers alone, then the last one's answer and maybe words about it.
    private static final Pattern LINE = Pattern.compile("((?:x\\.\\w+\\([^)]*\\);\\s*)+)// (-?\\d+|\\w+)\\b.*");
    private static final Pattern CALL = Pattern.compile("x\\.(\\w+)\\(([^)]*)\\);");

    private static final Set<String> used = new TreeSet<>();
    private static int wrong = 0;

    private ReadmeTest() {
    }

    public static void main(String[] args) throws IOException, IllegalAccessException {
        EdgeJoins x = new EdgeJoins();
        boolean inside = false;
        List<String> lines = Files.readAllLines(Path.of("README.md"));
        for (String line : lines) {
            if (line.startsWith("```")) {
                inside = line.equals("```java");
            } else if (inside && line.startsWith("x.")) {
                tryLine(x, line);
            }
        }
        due("the methods that the example uses", used.toString(), methodsOfTheFace().toString());
        System.out.println("README.md: " + (wrong == 0 ? "all as due" : wrong + " not as due"));
        if (wrong != 0) {
            System.exit(1);
        }
    }

    private static void tryLine(EdgeJoins x, String line) throws IllegalAccessException {
        Matcher parts = LINE.matcher(line);
        if (!parts.matches()) {
            due(line, "a line without an answer", "calls and an answer");
            return;
        }
        String answer = "";
        Matcher call = CALL.matcher(parts.group(1));
        while (call.find()) {
            answer = answerOf(x, call.group(1), call.group(2));
        }
        due(line, answer, parts.group(2));
    }

    private static String answerOf(EdgeJoins x, String name, String numbers) throws IllegalAccessException {
        used.add(name);
        String[] texts = numbers.isEmpty() ? new String[0] : numbers.split(", ");
        Object[] values = new Object[texts.length];
        for (int at = 0; at < texts.length; at++) {
            values[at] = Integer.parseInt(texts[at]);
        }
        for (Method method : EdgeJoins.class.getMethods()) {
            if (method.getName().equals(name) && method.getParameterCount() == values.length) {
                try {
                    return String.valueOf(method.invoke(x, values));
                } catch (InvocationTargetException e) {
                    return e.getCause().getClass().getSimpleName();
                }
            }
        }
        return "no such call";
    }

    private static Set<String> methodsOfTheFace() {
        Set<String> names = new TreeSet<>();
        for (Method method : EdgeJoins.class.getMethods()) {
            if (method.getDeclaringClass() == EdgeJoins.class) {
                names.add(method.getName());
            }
        }
        return names;
    }

    private static void due(String what, String got, String want) {
        if (!got.equals(want)) {
            wrong++;
            System.out.println(what + ": " + got + ", due is " + want);
        }
    }
}
