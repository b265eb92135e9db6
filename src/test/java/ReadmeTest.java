import java.io.IOException;
import java.lang.reflect.Method;
import java.lang.reflect.Modifier;
import java.nio.file.Files;
import java.nio.file.Path;
import java.util.TreeSet;
import java.util.regex.Matcher;
import java.util.regex.Pattern;

/** The examples of README.md: makes their calls, and compares the answers with those in the comments. */
public final class ReadmeTest {
    private static final String BEGIN = "StoppingPlanner x = new StoppingPlanner();";
    private static final Pattern TYPED = Pattern.compile(
        "for \\(char sign : \"([ -~]*)\"\\.toCharArray\\(\\)\\) x\\.type\\(sign\\);");
    private static final Pattern CALL = Pattern.compile("x\\.(\\w+)\\(([^()]*)\\); +// (-?\\d+): .*");
    private static final Checks c = new Checks("ReadmeTest");
    private static StoppingPlanner x;

    public static void main(String[] args) throws IOException {
        c.promise(0);
        String readme = Files.readString(Path.of("README.md"));
        examples(readme);
        methodsAreNamed(readme);
        c.end();
    }

    private static void examples(String readme) {
        int calls = 0;
        boolean inside = false;
        for (String line : readme.split("\n")) {
            if (line.startsWith("```")) {
                inside = line.equals("```java");
            } else if (inside) {
                calls += example(line);
            }
        }
        c.due("README.md has examples", calls > 0, true);
    }

    /** How many calls with an answer the line has. */
    private static int example(String line) {
        Matcher typed = TYPED.matcher(line);
        Matcher call = CALL.matcher(line);
        if (line.equals(BEGIN)) {
            x = new StoppingPlanner();
        } else if (typed.matches()) {
            for (char sign : typed.group(1).toCharArray()) {
                x.type(sign);
            }
        } else if (call.matches()) {
            c.due(line, answer(call.group(1), call.group(2)), Long.parseLong(call.group(3)));
            return 1;
        } else {
            c.due("a line that is no example: " + line, 1, 0);
        }
        return 0;
    }

    private static long answer(String name, String list) {
        String[] texts = list.isEmpty() ? new String[0] : list.split(", ");
        for (Method method : StoppingPlanner.class.getMethods()) {
            if (method.getName().equals(name) && method.getParameterCount() == texts.length) {
                Object[] arguments = new Object[texts.length];
                for (int at = 0; at < texts.length; at++) {
                    boolean isTruth = method.getParameterTypes()[at] == boolean.class;
                    arguments[at] = isTruth ? Boolean.valueOf(texts[at]) : (Object) Integer.valueOf(texts[at]);
                }
                return answer(method, arguments);
            }
        }
        throw new IllegalStateException("no method " + name + "(" + list + ")");
    }

    private static long answer(Method method, Object[] arguments) {
        try {
            return ((Number) method.invoke(x, arguments)).longValue();
        } catch (ReflectiveOperationException e) {
            throw new IllegalStateException(method.getName(), e);
        }
    }

    private static void methodsAreNamed(String readme) {
        TreeSet<String> missing = new TreeSet<>();
        for (Method method : StoppingPlanner.class.getDeclaredMethods()) {
            if (Modifier.isPublic(method.getModifiers()) && !readme.contains("`" + method.getName() + "`")) {
                missing.add(method.getName());
            }
        }
        c.due("methods that README.md does not name, " + missing, missing.size(), 0);
    }
}
