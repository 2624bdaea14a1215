import java.lang.reflect.InvocationTargetException;
import java.lang.reflect.Method;
import java.nio.file.Files;
import java.nio.file.Path;
import java.util.HashMap;
import java.util.Map;
import java.util.Set;
import java.util.TreeSet;
import java.util.regex.Matcher;
import java.util.regex.Pattern;

/** The example in README.md: each of its calls answers what stands behind it; and each call of the face is named. */
public final class ReadmeTest {
    private static final Pattern LINE =
        Pattern.compile("(?:int (\\w+) = )?field\\.(\\w+)\\(([^)]*)\\); *// ([^ :]+).*");
    private static final String MAKING = "Steamfield field = new Steamfield();";

    private final Steamfield field = new Steamfield();
    private final Map<String, Object> names = new HashMap<>();

    public static void main(String[] args) throws Exception {
        String text = Files.readString(Path.of("README.md"));
        int begin = text.indexOf("```java\n") + 8;
        ReadmeTest test = new ReadmeTest();
        int calls = 0;
        for (String line : text.substring(begin, text.indexOf("```\n", begin)).split("\n")) {
            if (!line.isEmpty() && !line.equals(MAKING)) {
                test.answers(line);
                calls++;
            }
        }
        Check.due("it has many calls", calls > 20, true);
        allAreNamed(text);
        Check.end("ReadmeTest");
    }

    private void answers(String line) throws Exception {
        Matcher parts = LINE.matcher(line);
        if (!parts.matches()) {
            Check.due("the form of a line", line, "a call with its answer");
            return;
        }
        String[] words = parts.group(3).isEmpty() ? new String[0] : parts.group(3).split(", ");
        Object[] values = new Object[words.length];
        for (int i = 0; i < words.length; i++) {
            values[i] = value(words[i]);
        }
        Object answer = answerOf(parts.group(2), values);
        Check.due(line, String.valueOf(answer), parts.group(4));
        if (parts.group(1) != null) {
            names.put(parts.group(1), answer);
        }
    }

    private Object value(String word) {
        if (word.equals("true") || word.equals("false")) {
            return word.equals("true");
        }
        return names.containsKey(word) ? names.get(word) : (Object) Integer.valueOf(word);
    }

    /** What a call answers, or the name of what it throws. */
    private Object answerOf(String name, Object[] values) throws Exception {
        for (Method method : Steamfield.class.getMethods()) {
            if (method.getName().equals(name) && method.getParameterCount() == values.length) {
                try {
                    return method.invoke(field, values);
                } catch (InvocationTargetException e) {
                    return e.getCause().getClass().getSimpleName();
                }
            }
        }
        return "no such call";
    }

    private static void allAreNamed(String text) {
        Set<String> missing = new TreeSet<>();
        for (Method method : Steamfield.class.getMethods()) {
            if (method.getDeclaringClass() == Steamfield.class && !text.contains("`" + method.getName() + "`")) {
                missing.add(method.getName());
            }
        }
        Check.due("calls that are not named", missing.toString(), "[]");
    }
}
