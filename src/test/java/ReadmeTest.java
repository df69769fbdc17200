import java.io.IOException;
import java.lang.reflect.Method;
import java.nio.charset.StandardCharsets;
import java.nio.file.Files;
import java.nio.file.Path;
import java.util.Set;
import java.util.TreeSet;
import java.util.regex.Matcher;
import java.util.regex.Pattern;

/** README.md: each line of its Java is run, and answers as it is told there; each call of the class is shown. */
public final class ReadmeTest {
    private static final String START = "GlassPalace x = new GlassPalace();";
    private static final Pattern CALL = Pattern.compile("x\\.(\\w+)\\(([^()]*)\\); *// (-?\\d+)(: .*)?");
    private static final Pattern CONSTANT = Pattern.compile("\\| (-\\d+) \\| `(\\w+)` \\|.*");
    private static final Set<String> SHOWN = new TreeSet<>();

    public static void main(String[] args) throws IOException, ReflectiveOperationException {
        String[] lines = Files.readString(Path.of("README.md"), StandardCharsets.UTF_8).split("\n");
        calls(lines);
        for (Method method : GlassPalace.class.getDeclaredMethods()) {
            if (java.lang.reflect.Modifier.isPublic(method.getModifiers())) {
                Due.holds(method.getName() + " is shown", SHOWN.contains(method.getName()));
            }
        }
        Due.is("constants", constants(lines), 4);
        tests(String.join("\n", lines));
        Due.end("ReadmeTest");
    }

    private static void calls(String[] lines) throws ReflectiveOperationException {
        GlassPalace x = null;
        boolean java = false;
        for (int k = 0; k < lines.length; k++) {
            String line = lines[k];
            if (line.startsWith("```")) {
                java = line.equals("```java");
                x = null;
            } else if (java && line.equals(START)) {
                x = new GlassPalace();
            } else if (java) {
                Matcher call = CALL.matcher(line);
                boolean readable = call.matches() && x != null;
                Due.holds("line " + (k + 1) + " is a call with its answer: " + line, readable);
                if (readable) {
                    SHOWN.add(call.group(1));
                    Due.is("line " + (k + 1) + ": " + line, answer(x, call.group(1), call.group(2)),
                        Long.parseLong(call.group(3)));
                }
            }
        }
    }

    private static long answer(GlassPalace x, String name, String row) throws ReflectiveOperationException {
        String[] words = row.isEmpty() ? new String[0] : row.split(", *");
        for (Method method : GlassPalace.class.getMethods()) {
            if (method.getName().equals(name) && method.getParameterCount() == words.length) {
                Object[] arguments = new Object[words.length];
                for (int k = 0; k < words.length; k++) {
                    arguments[k] = argument(method.getParameterTypes()[k], words[k]);
                }
                return ((Number) method.invoke(x, arguments)).longValue();
            }
        }
        throw new NoSuchMethodException(name + "(" + row + ")");
    }

    private static Object argument(Class<?> type, String word) {
        if (type == boolean.class) {
            Due.holds(word + " is true or false", word.equals("true") || word.equals("false"));
            return Boolean.valueOf(word);
        }
        if (type == int.class) {
            return Integer.decode(word);
        }
        return Long.decode(word);
    }

    /** The rows that tell a constant by its number. */
    private static int constants(String[] lines) throws ReflectiveOperationException {
        int constants = 0;
        for (String line : lines) {
            Matcher row = CONSTANT.matcher(line);
            if (row.matches()) {
                Due.is(row.group(2), GlassPalace.class.getField(row.group(2)).getInt(null), Long.parseLong(row.group(1)));
                constants++;
            }
        }
        return constants;
    }

    /** Each test of the project is told. */
    private static void tests(String text) throws IOException {
        try (java.util.stream.Stream<Path> files = Files.list(Path.of("src/test/java"))) {
            for (Path file : (Iterable<Path>) files::iterator) {
                String name = file.getFileName().toString().replace(".java", "");
                Due.holds(name + " is told", text.contains("`" + name + "`"));
            }
        }
    }
}
