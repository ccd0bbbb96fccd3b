import java.io.IOException;
import java.lang.reflect.InvocationTargetException;
import java.lang.reflect.Method;
import java.nio.file.Files;
import java.nio.file.Path;
import java.util.ArrayList;
import java.util.HashMap;
import java.util.List;
import java.util.Map;
import java.util.regex.Matcher;
import java.util.regex.Pattern;

/** The examples of README.md: their calls are made, and must answer what they tell. */
public final class ReadmeTest {
    private static final String MADE = "BeltMachine m = new BeltMachine();";
    private static final Pattern CALL =
            Pattern.compile("(?:int (\\w+) = )?m\\.(\\w+)\\(([^)]*)\\);(?: *// (.*))?");
    private static final Pattern TOLD = Pattern.compile("(answers -?\\d+|throws \\w+).*");
    private static final Due due = new Due();

    private final Map<String, String> names = new HashMap<>();
    private BeltMachine machine;

    public static void main(String[] args) throws IOException, ReflectiveOperationException {
        List<List<String>> examples = examples(Files.readAllLines(Path.of("README.md")));
        due.isTrue("examples " + examples.size(), examples.size() >= 3);
        for (List<String> lines : examples) {
            ReadmeTest example = new ReadmeTest();
            int told = 0;
            for (String line : lines) {
                told += example.line(line);
            }
            due.isTrue("an example tells an answer", told > 0);
        }
        due.end();
    }

    private static List<List<String>> examples(List<String> readme) {
        List<List<String>> examples = new ArrayList<>();
        boolean inside = false;
        for (String line : readme) {
            if (line.equals("```java")) {
                examples.add(new ArrayList<>());
                inside = true;
            } else if (line.startsWith("```")) {
                inside = false;
            } else if (inside) {
                examples.get(examples.size() - 1).add(line);
            }
        }
        return examples;
    }

    /** Makes the call of a line; 1 if the line tells its answer. */
    private int line(String line) throws ReflectiveOperationException {
        if (line.equals(MADE)) {
            machine = new BeltMachine();
            return 0;
        }
        Matcher call = CALL.matcher(line);
        if (!call.matches()) {
            due.isTrue("can be read: " + line, false);
            return 0;
        }
        String answer = answer(call.group(2), call.group(3).split(", "));
        if (call.group(1) != null) {
            names.put(call.group(1), answer.substring("answers ".length()));
        }
        Matcher told = TOLD.matcher(call.group(4) == null ? "" : call.group(4));
        boolean tells = told.matches();
        // A line that tells nothing must at least be no refused call.
        due.isTrue(line + " " + answer,
                tells ? answer.equals(told.group(1)) : answer.startsWith("answers "));
        return tells ? 1 : 0;
    }

    private String answer(String name, String[] words) throws ReflectiveOperationException {
        Method method = method(name);
        Object[] arguments = new Object[words.length];
        for (int i = 0; i < words.length; i++) {
            String number = names.getOrDefault(words[i], words[i]);
            if (method.getParameterTypes()[i] == long.class) {
                arguments[i] = Long.decode(number);
            } else {
                arguments[i] = Integer.decode(number);
            }
        }
        try {
            return "answers " + method.invoke(machine, arguments);
        } catch (InvocationTargetException e) {
            return "throws " + e.getCause().getClass().getSimpleName();
        }
    }

    private static Method method(String name) throws NoSuchMethodException {
        for (Method method : BeltMachine.class.getDeclaredMethods()) {
            if (method.getName().equals(name)) {
                return method;
            }
        }
        throw new NoSuchMethodException(name);
    }
}
