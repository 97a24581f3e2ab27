import java.lang.reflect.Method;
import java.lang.reflect.Modifier;
import java.nio.file.Files;
import java.nio.file.Path;
import java.util.HashMap;
import java.util.Map;
import java.util.regex.Matcher;
import java.util.regex.Pattern;

/** README.md tells of every call, and the calls of its example answer what it says behind each of them. */
public final class ReadmeTest {
    private static final Pattern EXAMPLE = Pattern.compile("(?s)```java\n(.*?)```");
    private static final Pattern CALL =
        Pattern.compile("(?:int (\\w+) = )?store\\.(\\w+)\\(([^)]*)\\); *// (-?\\w+).*");
    private static final String MAKING = "RoomGone store = new RoomGone();";

    private final RoomGone store = new RoomGone();
    private final Map<String, Integer> variables = new HashMap<>();

    public static void main(String[] args) throws Exception {
        Due.is("the source's path is the argument", args.length, 1);
        String readme = Files.readString(Path.of(args[0]).resolveSibling("../../../README.md"));
        everyCallIsTold(readme);
        Matcher example = EXAMPLE.matcher(readme);
        Due.yes("there is an example", example.find());
        ReadmeTest run = new ReadmeTest();
        for (String line : example.group(1).split("\n")) {
            run.follow(line);
        }
        Due.end();
    }

    private static void everyCallIsTold(String readme) {
        for (Method method : RoomGone.class.getDeclaredMethods()) {
            if (Modifier.isPublic(method.getModifiers())) {
                Due.yes(method.getName() + " is told", readme.contains("`" + method.getName() + "("));
            }
        }
    }

    private void follow(String line) throws ReflectiveOperationException {
        if (line.equals(MAKING)) {
            return;
        }
        Matcher call = CALL.matcher(line);
        boolean known = call.matches();
        Due.yes("a call with its answer behind it: " + line, known);
        if (known) {
            Object answer = answer(call.group(2), call.group(3).isEmpty() ? new String[0] : call.group(3).split(", "));
            Due.yes(line + " answered " + answer, String.valueOf(answer).equals(call.group(4)));
            if (call.group(1) != null) {
                variables.put(call.group(1), (Integer) answer);
            }
        }
    }

    private Object answer(String name, String[] texts) throws ReflectiveOperationException {
        for (Method method : RoomGone.class.getMethods()) {
            if (method.getName().equals(name) && method.getParameterCount() == texts.length) {
                Object[] arguments = new Object[texts.length];
                for (int i = 0; i < texts.length; i++) {
                    arguments[i] = value(texts[i]);
                }
                return method.invoke(store, arguments);
            }
        }
        return "no such call";
    }

    private Object value(String text) {
        if (text.equals("true") || text.equals("false")) {
            return Boolean.valueOf(text);
        }
        Integer variable = variables.get(text);
        return variable != null ? variable : Integer.valueOf(text);
    }
}
