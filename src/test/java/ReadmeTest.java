import java.lang.reflect.InvocationTargetException;
import java.lang.reflect.Method;
import java.nio.file.Files;
import java.nio.file.Path;
import java.util.HashMap;
import java.util.Map;
import java.util.regex.Matcher;
import java.util.regex.Pattern;

/** README.md tells the truth: its example answers as it says there, and every call of the document is named. */
public final class ReadmeTest {
    private static final Path README = Path.of("README.md");
    private static final Path DOCUMENT = Path.of("../shared/DOC.md");
    private static final Pattern LINE = Pattern.compile("(?:int (\\w+) = )?works\\.(\\w+)\\((.*)\\); +// (.+)");

    private final Meniscus works = new Meniscus();
    private final Map<String, Object> named = new HashMap<>();

    public static void main(String[] args) throws Exception {
        String readme = Files.readString(README);
        new ReadmeTest().play(example(readme));
        for (String line : Files.readAllLines(DOCUMENT)) {
            if (line.startsWith("    public ") && !line.contains("Meniscus(")) {
                String call = call(line);
                Checks.due("README.md names " + call, true, () -> readme.contains("| `" + call + "` |"));
            }
        }
        Checks.end();
    }

    private static String example(String readme) {
        String from = "```java\n";
        int begin = readme.indexOf(from) + from.length();
        return readme.substring(begin, readme.indexOf("```", begin));
    }

    /** A line of the face as README.md writes it: the name and its parameters, without types. */
    private static String call(String line) {
        String from = line.strip().replaceFirst("public \\w+ ", "");
        return from.substring(0, from.indexOf(')') + 1).replaceAll("(int|char|boolean) ", "");
    }

    private void play(String example) {
        String[] lines = example.split("\n");
        Checks.due("the first line", "Meniscus works = new Meniscus();", () -> lines[0]);
        for (int i = 1; i < lines.length; i++) {
            String line = lines[i];
            Matcher parts = LINE.matcher(line);
            boolean read = parts.matches();
            Checks.due("a call with its answer: " + line, true, () -> read);
            if (read) {
                Checks.due(line, parts.group(4), () -> answer(parts));
            }
        }
    }

    private Object answer(Matcher parts) {
        Object[] values = values(parts.group(3));
        Object answer = callNamed(parts.group(2), values);
        if (parts.group(1) != null) {
            named.put(parts.group(1), answer);
        }
        return answer;
    }

    private Object[] values(String written) {
        String[] words = written.isEmpty() ? new String[0] : written.split(", ");
        Object[] values = new Object[words.length];
        for (int i = 0; i < words.length; i++) {
            values[i] = value(words[i]);
        }
        return values;
    }

    private Object value(String word) {
        if (word.startsWith("'")) {
            return word.charAt(1);
        }
        return named.containsKey(word) ? named.get(word) : Integer.valueOf(word);
    }

    /** What the call throws is thrown on, for Checks tells it as an answer. */
    private Object callNamed(String name, Object[] values) {
        for (Method method : Meniscus.class.getMethods()) {
            if (method.getName().equals(name) && method.getParameterCount() == values.length) {
                try {
                    return method.invoke(works, values);
                } catch (InvocationTargetException thrown) {
                    throw (RuntimeException) thrown.getCause();
                } catch (IllegalAccessException shut) {
                    return shut;
                }
            }
        }
        return "no such call";
    }
}
