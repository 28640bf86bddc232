import java.io.IOException;
import java.lang.reflect.InvocationTargetException;
import java.lang.reflect.Method;
import java.lang.reflect.Modifier;
import java.nio.file.Files;
import java.nio.file.Path;
import java.util.ArrayList;
import java.util.HashMap;
import java.util.List;
import java.util.Map;
import java.util.TreeSet;
import java.util.regex.Matcher;
import java.util.regex.Pattern;

/** The example in README.md, line by line: it calls the whole class, and the answers it tells are given. */
public final class ReadmeTests {
    private static final Pattern MADE = Pattern.compile("ProofGate gate = new ProofGate\\((\\d+)\\); *(//.*)?");
    private static final Pattern CALL = Pattern.compile(
            "(?:int (\\w+) = )?gate\\.(\\w+)\\(([^()]*)\\); *(?:// (?:-> (throws \\w+|-?\\w+)|(?!->)).*)?");

    private final Map<String, Integer> names = new HashMap<>();
    private final TreeSet<String> notCalled = new TreeSet<>();
    private ProofGate gate;

    private ReadmeTests() {
        for (Method method : ProofGate.class.getDeclaredMethods()) {
            if (Modifier.isPublic(method.getModifiers())) {
                notCalled.add(method.getName());
            }
        }
    }

    /** The lines of Java in README.md that are not empty and not comments alone. */
    private static List<String> example() throws IOException {
        List<String> lines = new ArrayList<>();
        boolean inside = false;
        for (String line : Files.readAllLines(Path.of("README.md"))) {
            if (line.startsWith("```")) {
                inside = line.equals("```java");
            } else if (inside && !line.isEmpty() && !line.startsWith("//")) {
                lines.add(line);
            }
        }
        return lines;
    }

    private void run(String line) {
        Matcher made = MADE.matcher(line);
        Matcher call = CALL.matcher(line);
        if (made.matches()) {
            gate = new ProofGate(Integer.parseInt(made.group(1)));
        } else if (call.matches() && gate != null) {
            String name = call.group(1);
            String told = call.group(4);
            String answer = answer(call.group(2), call.group(3));
            boolean needNotBeTold = name != null || answer.equals("null");
            if (told != null || !needNotBeTold) {
                Due.is(line, answer, String.valueOf(told));
            }
            if (name != null) {
                names.put(name, Integer.valueOf(answer));
            }
        } else {
            Due.is(line, "no call", "a call");
        }
    }

    private String answer(String name, String arguments) {
        notCalled.remove(name);
        String[] words = arguments.isEmpty() ? new String[0] : arguments.split(", ");
        for (Method method : ProofGate.class.getDeclaredMethods()) {
            if (method.getName().equals(name) && method.getParameterCount() == words.length) {
                return answer(method, words);
            }
        }
        return "no such method";
    }

    private String answer(Method method, String[] words) {
        Object[] values = new Object[words.length];
        for (int i = 0; i < words.length; i++) {
            values[i] = value(words[i], method.getParameterTypes()[i]);
        }
        try {
            return String.valueOf(method.invoke(gate, values));
        } catch (InvocationTargetException e) {
            return "throws " + e.getCause().getClass().getSimpleName();
        } catch (IllegalAccessException e) {
            return "no public method";
        }
    }

    private Object value(String word, Class<?> type) {
        if (type == boolean.class) {
            return Boolean.valueOf(word);
        }
        return names.containsKey(word) ? names.get(word) : Integer.valueOf(word);
    }

    public static void main(String[] args) throws IOException {
        ReadmeTests readme = new ReadmeTests();
        for (String line : example()) {
            readme.run(line);
        }
        Due.is("methods that the example leaves out", readme.notCalled.toString(), "[]");
        Due.finish();
    }
}
