import java.io.IOException;
import java.lang.reflect.InvocationTargetException;
import java.lang.reflect.Method;
import java.nio.file.Files;
import java.nio.file.Path;
import java.util.ArrayList;
import java.util.List;
import java.util.Set;
import java.util.TreeSet;
import java.util.regex.Matcher;
import java.util.regex.Pattern;

/** Makes the calls of the README's run: each answer must be the one that stands behind the call. */
public final class ReadmeTest extends Checks {
    private static final String MADE = "EchoTune x = new EchoTune();";
    private static final Pattern TOLD = Pattern.compile("tell\\(x, \"([^\"]*)\"\\);");
    private static final Pattern CALL = Pattern.compile("x\\.(\\w+)\\(([^)]*)\\); +// (throws \\w+|[\\w-]+).*");

    /** The lines of the code block that makes an object, without the empty ones. */
    private static List<String> run() throws IOException {
        List<String> block = new ArrayList<>();
        for (String line : Files.readAllLines(Path.of("README.md"))) {
            if (line.startsWith("```")) {
                if (block.contains(MADE)) {
                    return block;
                }
                block.clear();
            } else if (!line.isBlank()) {
                block.add(line);
            }
        }
        return List.of();
    }

    private static Method method(String name) {
        for (Method m : EchoTune.class.getDeclaredMethods()) {
            if (m.getName().equals(name) && java.lang.reflect.Modifier.isPublic(m.getModifiers())) {
                return m;
            }
        }
        throw new IllegalStateException("README calls " + name + ", which is no call of the face");
    }

    private static Object number(Class<?> type, String text) {
        if (type == boolean.class) {
            return Boolean.valueOf(text);
        }
        if (type == long.class) {
            return Long.decode(text.replace("L", ""));
        }
        return Integer.valueOf(text);
    }

    private static String answer(EchoTune x, String name, String told) throws IllegalAccessException {
        Method m = method(name);
        String[] texts = told.isEmpty() ? new String[0] : told.split(", ");
        Object[] values = new Object[texts.length];
        for (int i = 0; i < texts.length; i++) {
            values[i] = number(m.getParameterTypes()[i], texts[i]);
        }
        try {
            return String.valueOf(m.invoke(x, values));
        } catch (InvocationTargetException e) {
            return "throws " + e.getCause().getClass().getSimpleName();
        }
    }

    private static Set<String> face() {
        Set<String> names = new TreeSet<>();
        for (Method m : EchoTune.class.getDeclaredMethods()) {
            if (java.lang.reflect.Modifier.isPublic(m.getModifiers())) {
                names.add(m.getName());
            }
        }
        return names;
    }

    public static void main(String[] args) throws IOException, IllegalAccessException {
        begin("README.md");
        EchoTune x = new EchoTune();
        Set<String> called = new TreeSet<>();
        for (String line : run()) {
            Matcher told = TOLD.matcher(line);
            Matcher call = CALL.matcher(line);
            if (told.matches()) {
                tell(x, told.group(1));
            } else if (call.matches()) {
                called.add(call.group(1));
                due(line, answer(x, call.group(1), call.group(2)), call.group(3));
            } else {
                due("a line that is no call", line, MADE);
            }
        }
        due("the calls that the run shows", called.toString(), face().toString());
        finish();
    }
}
