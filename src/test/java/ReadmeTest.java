import java.nio.charset.StandardCharsets;
import java.nio.file.Files;
import java.nio.file.Path;
import java.util.ArrayList;
import java.util.Arrays;
import java.util.List;
import java.util.regex.Matcher;
import java.util.regex.Pattern;

/** Goes through the examples of README.md, on one object, and holds each answer against the one that stands there. */
public final class ReadmeTest {
    private static final Check CHECK = new Check();
    private static final Pattern CALL = Pattern.compile("works\\.(\\w+)\\((.*)\\); +// (-?\\d+|[A-Z_]+)(:.*)?");
    private static final Pattern TEXT = Pattern.compile("String text = \"(.*)\";");
    /** The lines that are neither a call with its answer nor a text: those that make the object and append the text. */
    private static final List<String> OTHERS = Arrays.asList("SundialWorks works = new SundialWorks();",
            "for (int i = 0; i < text.length(); i++) {", "works.append(text.charAt(i));", "}");
    private static final int CALLS = 26;

    private static final SundialWorks WORKS = new SundialWorks();

    public static void main(String[] args) throws Exception {
        int calls = 0;
        for (String line : examples()) {
            Matcher call = CALL.matcher(line);
            Matcher text = TEXT.matcher(line);
            if (call.matches()) {
                calls++;
                CHECK.due(line, answerOf(call.group(3)), answer(call.group(1), call.group(2)));
            } else if (text.matches()) {
                Check.type(WORKS, text.group(1));
            } else {
                CHECK.holds("that this line can be tested: " + line, OTHERS.contains(line));
            }
        }
        CHECK.due("the calls in README.md", CALLS, calls);
        CHECK.end();
    }

    /** The lines between "```java" and "```". */
    private static List<String> examples() throws Exception {
        List<String> found = new ArrayList<>();
        boolean inside = false;
        for (String line : Files.readAllLines(Path.of("README.md"), StandardCharsets.UTF_8)) {
            if (line.startsWith("```")) {
                inside = line.equals("```java");
            } else if (inside) {
                found.add(line.trim());
            }
        }
        return found;
    }

    private static int answerOf(String words) throws Exception {
        return Character.isUpperCase(words.charAt(0))
                ? SundialWorks.class.getField(words).getInt(null) : Integer.parseInt(words);
    }

    private static int answer(String name, String arguments) throws Exception {
        String[] words = arguments.isEmpty() ? new String[0] : arguments.split(", ");
        Class<?>[] types = new Class<?>[words.length];
        Object[] values = new Object[words.length];
        for (int i = 0; i < words.length; i++) {
            types[i] = int.class;
            values[i] = words[i].startsWith("'") ? (int) words[i].charAt(1) : Integer.parseInt(words[i]);
        }
        return (Integer) SundialWorks.class.getMethod(name, types).invoke(WORKS, values);
    }
}
