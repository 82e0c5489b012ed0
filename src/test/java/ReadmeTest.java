import java.io.IOException;
import java.lang.reflect.InvocationTargetException;
import java.lang.reflect.Method;
import java.lang.reflect.Modifier;
import java.nio.file.Files;
import java.nio.file.Path;
import java.util.HashMap;
import java.util.List;
import java.util.Map;
import java.util.regex.Matcher;
import java.util.regex.Pattern;

/** README.md tells the truth: its example is run line by line, and its table has every call. */
public final class ReadmeTest {
    private static final Pattern CALL = Pattern.compile(
        "(?:int (\\w+) = )?planner\\.(\\w+)\\((.*)\\); +// (-?\\d+(?:\\.\\d+)?)(:.*)?");
    private static final Pattern TABLE_ROW = Pattern.compile("\\| `(\\w+)\\((.*?)\\)` \\| .+ \\|");
    private static final String NEW_PLANNER = "KindergartenPlanner planner = new KindergartenPlanner();";

    private static final Checks CHECKS = new Checks();
    private static final Map<String, Integer> VARIABLES = new HashMap<>();
    private static final Map<String, Method> CALLS = new HashMap<>();
    private static KindergartenPlanner planner;

    public static void main(String[] args) throws IOException, ReflectiveOperationException {
        for (Method method : KindergartenPlanner.class.getDeclaredMethods()) {
            if (Modifier.isPublic(method.getModifiers())) {
                CALLS.put(method.getName(), method);
            }
        }
        CHECKS.holds("the test is given the source's path", args.length == 1);
        if (args.length == 1) {
            List<String> readme = Files.readAllLines(readmeBeside(Path.of(args[0])));
            runExample(readme);
            checkTable(readme);
        }
        CHECKS.end();
    }

    /** The program lies in src/main/java of the folder that has the README. */
    private static Path readmeBeside(Path program) {
        return program.toAbsolutePath().getParent().resolve("../../../README.md").normalize();
    }

    private static void runExample(List<String> readme) throws ReflectiveOperationException {
        boolean inside = false;
        int lines = 0;
        for (String line : readme) {
            if (line.startsWith("```")) {
                inside = line.equals("```java");
            } else if (inside && !line.isBlank()) {
                runLine(line);
                lines++;
            }
        }
        CHECKS.holds("the README has an example", lines > 1);
    }

    private static void runLine(String line) throws ReflectiveOperationException {
        if (line.equals(NEW_PLANNER)) {
            planner = new KindergartenPlanner();
            return;
        }
        Matcher call = CALL.matcher(line);
        boolean isCall = call.matches();
        CHECKS.holds("a call with its answer: " + line, isCall && CALLS.containsKey(call.group(2)));
        if (!isCall || !CALLS.containsKey(call.group(2))) {
            return;
        }
        Number answer = answerOf(CALLS.get(call.group(2)), call.group(3));
        CHECKS.holds(line + " (it answers " + answer + ")", call.group(4).equals(answer.toString()));
        if (call.group(1) != null) {
            VARIABLES.put(call.group(1), answer.intValue());
        }
    }

    private static Number answerOf(Method call, String arguments) throws ReflectiveOperationException {
        String[] words = wordsOf(arguments);
        Object[] values = new Object[words.length];
        for (int i = 0; i < words.length; i++) {
            values[i] = valueOf(words[i]);
        }
        try {
            return (Number) call.invoke(planner, values);
        } catch (InvocationTargetException e) {
            throw new IllegalStateException(call.getName() + " has thrown", e.getCause());
        }
    }

    private static String[] wordsOf(String arguments) {
        return arguments.isEmpty() ? new String[0] : arguments.split(", ");
    }

    private static Object valueOf(String word) {
        if (word.equals("true") || word.equals("false")) {
            return word.equals("true");
        }
        if (word.length() == 3 && word.startsWith("'") && word.endsWith("'")) {
            return (int) word.charAt(1);
        }
        return VARIABLES.containsKey(word) ? VARIABLES.get(word) : (Object) Integer.valueOf(word);
    }

    private static void checkTable(List<String> readme) {
        Map<String, Integer> told = new HashMap<>();
        for (String line : readme) {
            Matcher row = TABLE_ROW.matcher(line);
            if (row.matches()) {
                CHECKS.holds("the table has it once: " + row.group(1), !told.containsKey(row.group(1)));
                told.put(row.group(1), wordsOf(row.group(2)).length);
            }
        }
        for (Method call : CALLS.values()) {
            CHECKS.due("arguments in the table of " + call.getName(),
                told.getOrDefault(call.getName(), -1), call.getParameterCount());
        }
        CHECKS.due("calls in the table", told.size(), CALLS.size());
    }
}
