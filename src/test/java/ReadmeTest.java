import java.io.IOException;
import java.lang.reflect.InvocationTargetException;
import java.lang.reflect.Method;
import java.nio.file.Files;
import java.nio.file.Path;
import java.util.HashMap;
import java.util.Map;
import java.util.regex.Matcher;
import java.util.regex.Pattern;

/** Makes the calls that README.md shows, one behind the other, and compares the answers that it tells. */
public final class ReadmeTest {
    private static final Pattern CALL =
            Pattern.compile("(?:(\\w+) (\\w+) = )?shop\\.(\\w+)\\(([^)]*)\\);\\s+// (throws \\w+|[^\\s:]+)(: .+)?");
    private static final String NEW_SHOP = "StrikeStrip shop = new StrikeStrip();";
    private static final int LEAST_CALLS = 40;

    private StrikeStrip shop;
    private final Map<String, Object> answers = new HashMap<>();
    private int calls;

    public static void main(String[] args) throws IOException {
        ReadmeTest test = new ReadmeTest();
        boolean isCode = false;
        for (String line : Files.readAllLines(Path.of("README.md"))) {
            if (line.startsWith("```")) {
                isCode = line.equals("```java");
            } else if (isCode) {
                test.read(line);
            }
        }
        Check.isTrue("README.md shows " + test.calls + " calls, not too few", test.calls >= LEAST_CALLS);
        Check.end();
    }

    private void read(String line) {
        if (line.equals(NEW_SHOP)) {
            shop = new StrikeStrip();
            answers.clear();
        } else if (!line.isBlank() && !line.startsWith("// ")) {
            Matcher call = CALL.matcher(line);
            boolean isCall = call.matches();
            Check.isTrue("a call and its answer: " + line, isCall);
            if (isCall) {
                make(call);
            }
        }
    }

    private void make(Matcher call) {
        Method method = methodOf(call.group(3));
        if (shop == null || method == null) {
            Check.isText(call.group(), "no such call", "a call of a shop");
            return;
        }
        String name = call.group(2);
        if (name != null) {
            Check.isText("the type of " + name, call.group(1), method.getReturnType().getName());
        }
        String got = answerOf(method, call.group(4), name);
        Check.isText(call.group(), got, call.group(5));
        calls++;
    }

    private static Method methodOf(String name) {
        for (Method method : StrikeStrip.class.getMethods()) {
            if (method.getName().equals(name)) {
                return method;
            }
        }
        return null;
    }

    private String answerOf(Method method, String told, String name) {
        try {
            Object answer = method.invoke(shop, arguments(method, told));
            if (name != null) {
                answers.put(name, answer);
            }
            return answer instanceof Character ? "'" + answer + "'" : answer.toString();
        } catch (InvocationTargetException e) {
            return "throws " + e.getCause().getClass().getSimpleName();
        } catch (IllegalAccessException | IllegalArgumentException e) {
            return e.toString();
        }
    }

    private Object[] arguments(Method method, String told) {
        String[] texts = told.isEmpty() ? new String[0] : told.split(", ");
        Object[] arguments = new Object[texts.length];
        for (int i = 0; i < texts.length; i++) {
            if (texts[i].equals("true") || texts[i].equals("false")) {
                arguments[i] = texts[i].equals("true");
            } else {
                arguments[i] = answers.containsKey(texts[i]) ? answers.get(texts[i]) : Integer.valueOf(texts[i]);
            }
        }
        return arguments;
    }
}
