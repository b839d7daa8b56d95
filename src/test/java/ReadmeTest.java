import java.io.IOException;
import java.lang.reflect.InvocationTargetException;
import java.lang.reflect.Method;
import java.lang.reflect.Modifier;
import java.nio.file.Files;
import java.nio.file.Path;
import java.util.Set;
import java.util.TreeSet;
import java.util.regex.Matcher;
import java.util.regex.Pattern;

/** The example of README.md: its answers are read from it, so that it cannot go stale unseen. */
final class ReadmeTest {
    private static final Due DUE = new Due();
    private static final Pattern CALL =
        Pattern.compile("(?m)^x\\.(\\w+)\\(([-\\d, ]*)\\); +// (-?\\d+)(?!\\d)");

    public static void main(String[] args) throws IOException, ReflectiveOperationException {
        String example = example(Files.readString(Path.of("README.md")));
        Set<String> asked = new TreeSet<>();
        KeyGuess guess = new KeyGuess();
        int calls = 0;
        for (Matcher m = CALL.matcher(example); m.find(); calls++) {
            asked.add(m.group(1));
            DUE.is(m.group(), answer(guess, m.group(1), m.group(2)), Long.parseLong(m.group(3)));
        }
        DUE.is("calls with an answer", calls, example.lines().filter(s -> s.startsWith("x.")).count());
        DUE.holds("every call is shown, not only " + asked, asked.equals(face()));
        DUE.end();
    }

    private static String example(String readme) {
        int start = readme.indexOf("```java\n");
        int end = readme.indexOf("\n```\n", start);
        DUE.holds("there is an example", start >= 0 && end > start);
        return start >= 0 && end > start ? readme.substring(start, end) : "";
    }

    private static Set<String> face() {
        Set<String> names = new TreeSet<>();
        for (Method m : KeyGuess.class.getDeclaredMethods()) {
            if (Modifier.isPublic(m.getModifiers())) {
                names.add(m.getName());
            }
        }
        return names;
    }

    private static long answer(KeyGuess guess, String name, String list)
            throws IllegalAccessException, InvocationTargetException {
        Object[] numbers = Pattern.compile("-?\\d+").matcher(list).results()
            .map(found -> Integer.valueOf(found.group())).toArray();
        for (Method m : KeyGuess.class.getDeclaredMethods()) {
            boolean meant = Modifier.isPublic(m.getModifiers()) && m.getName().equals(name);
            if (meant && m.getParameterCount() == numbers.length) {
                return ((Number) m.invoke(guess, numbers)).longValue();
            }
        }
        DUE.holds("there is a call " + name + "(" + list + ")", false);
        return 0;
    }
}
