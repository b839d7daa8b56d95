import java.io.IOException;
import java.lang.reflect.Constructor;
import java.lang.reflect.Field;
import java.lang.reflect.Method;
import java.lang.reflect.Modifier;
import java.nio.file.Files;
import java.nio.file.Path;
import java.util.Arrays;
import java.util.Set;
import java.util.TreeSet;
import java.util.regex.Pattern;

/** The public face, and those rules of LANGUAGE.md that can be read off the class and its text. */
final class FaceTest {
    private static final Due DUE = new Due();
    private static final Set<String> FACE = Set.of(
        "int put(int)", "int take(int)", "int make()", "int slack(int)", "int place(int)",
        "int at(int)", "int range(int, int)", "long sum(int, int)", "int pieces(int)",
        "int piece(int, int, int)", "int levels()", "int guess(int)", "int find(int)",
        "int looks(int)", "int maybe(int)", "int wrong(int, int)", "int poison(int, int, int)",
        "int count(int)");
    private static final String[] RULED_OUT = {
        "throw", "throws", "try", "catch", "finally", "synchronized", "assert", "import", "package",
        "native", "System\\.(?!arraycopy)\\w+", "->", "::", "Exact\\b", "extends Exception", "Thread",
        "Object", "toString", "hashCode", "equals"
    };

    public static void main(String[] args) throws IOException {
        constants();
        members();
        nested();
        text(Files.readString(Path.of("src/main/java/KeyGuess.java")));
        DUE.end();
    }

    private static void constants() {
        DUE.is("NONE", KeyGuess.NONE, -1);
        DUE.is("BAD", KeyGuess.BAD, -2);
        DUE.is("NOT", KeyGuess.NOT, -3);
        DUE.is("FULL", KeyGuess.FULL, -4);
        Set<String> seen = new TreeSet<>();
        for (Field f : KeyGuess.class.getDeclaredFields()) {
            if (!Modifier.isPrivate(f.getModifiers())) {
                seen.add(Modifier.toString(f.getModifiers()) + " " + f.getType() + " " + f.getName());
            }
        }
        DUE.holds("constants are " + seen, seen.equals(Set.of(
            "public static final int NONE", "public static final int BAD",
            "public static final int NOT", "public static final int FULL")));
    }

    private static void members() {
        Set<String> seen = new TreeSet<>();
        Set<String> names = new TreeSet<>();
        for (Method m : KeyGuess.class.getDeclaredMethods()) {
            if (!Modifier.isPrivate(m.getModifiers())) {
                DUE.is("modifiers of " + m.getName(), m.getModifiers(), Modifier.PUBLIC);
                String types = Arrays.toString(m.getParameterTypes()).replaceAll("[\\[\\]]", "");
                seen.add(m.getReturnType() + " " + m.getName() + "(" + types + ")");
                names.add(m.getName());
            }
        }
        DUE.holds("methods are " + seen, seen.equals(FACE));
        for (Method m : KeyGuess.class.getDeclaredMethods()) {
            if (Modifier.isPrivate(m.getModifiers())) {
                DUE.holds("private " + m.getName() + " has a public name", !names.contains(m.getName()));
            }
        }
        Constructor<?>[] made = KeyGuess.class.getDeclaredConstructors();
        DUE.is("constructors", made.length, 1);
        DUE.is("its modifiers", made[0].getModifiers(), Modifier.PUBLIC);
        DUE.is("its parameters", made[0].getParameterCount(), 0);
        int modifiers = KeyGuess.class.getModifiers();
        DUE.is("class modifiers", modifiers, Modifier.PUBLIC | Modifier.FINAL);
    }

    private static void nested() {
        Class<?>[] inside = KeyGuess.class.getDeclaredClasses();
        DUE.holds("at most twelve classes", inside.length < 12);
        for (Class<?> c : inside) {
            DUE.holds(c.getName() + " is static", Modifier.isStatic(c.getModifiers()));
            DUE.holds(c.getName() + " is not public", !Modifier.isPublic(c.getModifiers()));
            DUE.holds(c.getName() + " has few fields", c.getDeclaredFields().length <= 20);
        }
    }

    private static void text(String source) {
        String code = source.replaceAll("(?s)/\\*.*?\\*/", "").replaceAll("//[^\n]*", "");
        for (String word : RULED_OUT) {
            String edge = Character.isLetter(word.charAt(0)) ? "\\b" : "";
            String pattern = edge + word + (word.matches("\\w+") ? "\\b" : "");
            DUE.holds("no " + word, !Pattern.compile(pattern).matcher(code).find());
        }
        DUE.holds("characters 0 to 127", source.chars().allMatch(c -> c < 128));
    }
}
