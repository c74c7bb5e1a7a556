import java.io.IOException;
import java.lang.reflect.InvocationTargetException;
import java.lang.reflect.Method;
import java.nio.file.Files;
import java.nio.file.Path;
import java.util.regex.Matcher;
import java.util.regex.Pattern;

/** The example of README.md: each call there answers what stands beside it. Runs where README.md is. */
public final class ReadmeTest {
    private static final Pattern LINE = Pattern.compile("for \\(char c : \"([^\"]+)\"\\.toCharArray\\(\\)\\) \\{");
    private static final Pattern CALL = Pattern.compile("runner\\.(\\w+)\\(([^)]*)\\); *// ([\\w-]+): .*");

    public static void main(String[] args) throws IOException {
        Check check = new Check();
        String readme = Files.readString(Path.of("README.md"));
        String example = readme.split("```java\n")[1].split("```")[0];
        BigRunner runner = new BigRunner();
        int calls = 0;
        for (String line : example.split("\n")) {
            Matcher typed = LINE.matcher(line);
            Matcher call = CALL.matcher(line);
            if (typed.matches()) {
                Check.typeAll(runner, typed.group(1));
            } else if (call.matches()) {
                calls++;
                check.due(line, answer(runner, call.group(1), call.group(2)), call.group(3));
            }
        }
        check.due("calls with an answer in the example", calls, 13);
        for (Method method : BigRunner.class.getMethods()) {
            if (method.getDeclaringClass() == BigRunner.class) {
                check.due("the table names " + method.getName(), readme.contains("| `" + method.getName() + "("), true);
            }
        }
        check.end("ReadmeTest");
    }

    private static String answer(BigRunner runner, String name, String arguments) {
        String[] words = arguments.isEmpty() ? new String[0] : arguments.split(", ");
        Object[] values = new Object[words.length];
        for (int i = 0; i < words.length; i++) {
            boolean isTruth = words[i].equals("true") || words[i].equals("false");
            values[i] = isTruth ? (Object) Boolean.valueOf(words[i]) : (Object) Integer.valueOf(words[i]);
        }
        for (Method method : BigRunner.class.getMethods()) {
            if (method.getName().equals(name)) {
                return answer(runner, method, values);
            }
        }
        return "no such method";
    }

    private static String answer(BigRunner runner, Method method, Object[] values) {
        try {
            return String.valueOf(method.invoke(runner, values));
        } catch (InvocationTargetException e) {
            return e.getCause().getClass().getSimpleName();
        } catch (IllegalAccessException e) {
            return "not public";
        }
    }
}
