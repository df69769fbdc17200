import java.io.IOException;
import java.lang.reflect.Constructor;
import java.lang.reflect.Field;
import java.lang.reflect.Method;
import java.lang.reflect.Modifier;
import java.nio.charset.StandardCharsets;
import java.nio.file.Files;
import java.nio.file.Path;
import java.util.TreeSet;
import java.util.regex.Matcher;
import java.util.regex.Pattern;

/** The public face as the document shows it, and what LANGUAGE.md rules out. */
public final class FaceTest {
    private static final String[] RULED_OUT = {"throw", "throws", "try", "catch", "finally", "synchronized", "assert",
        "import", "package", "protected", "record", "transient", "volatile", "native", "strictfp"};

    public static void main(String[] args) throws IOException {
        String source = Files.readString(Path.of("src/main/java/GlassPalace.java"), StandardCharsets.UTF_8);
        face();
        classesInside();
        words(source);
        library(bare(source));
        lengths(source.split("\n"));
        Due.end("FaceTest");
    }

    private static void face() throws IOException {
        TreeSet<String> due = new TreeSet<>();
        String document = Files.readString(Path.of("../shared/DOC.md"), StandardCharsets.UTF_8);
        String face = document.substring(document.indexOf("```java") + 7);
        face = face.substring(0, face.indexOf("```"));
        Matcher methods = Pattern.compile("public (\\w+) (\\w+)\\(([^)]*)\\);").matcher(face);
        while (methods.find()) {
            String types = methods.group(3).replaceAll("(\\w+) \\w+", "$1");
            due.add("public " + methods.group(1) + " " + methods.group(2) + "(" + types + ")");
        }
        Due.is("methods of the document", due.size(), 46);
        TreeSet<String> got = new TreeSet<>();
        for (Method method : GlassPalace.class.getDeclaredMethods()) {
            if (!Modifier.isPrivate(method.getModifiers())) {
                StringBuilder types = new StringBuilder();
                for (Class<?> type : method.getParameterTypes()) {
                    types.append(types.length() > 0 ? ", " : "").append(type);
                }
                got.add(Modifier.toString(method.getModifiers()) + " " + method.getReturnType() + " "
                    + method.getName() + "(" + types + ")");
            }
        }
        Due.holds("the methods are those of the document: " + got, got.equals(due));
        Constructor<?>[] constructors = GlassPalace.class.getDeclaredConstructors();
        Due.is("constructors", constructors.length, 1);
        Due.is("its parameters", constructors[0].getParameterCount(), 0);
        Due.holds("it is public", Modifier.isPublic(constructors[0].getModifiers()));
        Due.holds("the class is public and final", Modifier.toString(GlassPalace.class.getModifiers()).equals("public final"));
        for (Field field : GlassPalace.class.getDeclaredFields()) {
            boolean constant = "NONE BAD STATE FULL NO".contains(field.getName());
            Due.holds("field " + field, constant == Modifier.isPublic(field.getModifiers())
                && constant != Modifier.isPrivate(field.getModifiers()));
        }
    }

    private static void classesInside() {
        TreeSet<String> names = new TreeSet<>();
        for (Method method : GlassPalace.class.getMethods()) {
            names.add(method.getName());
        }
        Due.holds("twelve classes at most", GlassPalace.class.getDeclaredClasses().length <= 11);
        size(GlassPalace.class);
        for (Class<?> inside : GlassPalace.class.getDeclaredClasses()) {
            Due.holds(inside + " is static", Modifier.isStatic(inside.getModifiers()));
            size(inside);
            for (Method method : inside.getDeclaredMethods()) {
                Due.holds(method + " bears a name of its own", !names.contains(method.getName()));
            }
        }
        for (Method method : GlassPalace.class.getDeclaredMethods()) {
            Due.holds(method + " bears a name of its own",
                Modifier.isPublic(method.getModifiers()) || !names.contains(method.getName()));
        }
    }

    private static void size(Class<?> kind) {
        int fields = 0;
        for (Field field : kind.getDeclaredFields()) {
            boolean constant = Modifier.isStatic(field.getModifiers());
            fields += constant ? 0 : 1;
            Due.holds(field + " is no static state", !constant || Modifier.isFinal(field.getModifiers()));
        }
        Due.holds(kind + " has " + fields + " fields", fields <= 20);
        for (Method method : kind.getDeclaredMethods()) {
            Due.holds(method + " has seven parameters at most", method.getParameterCount() <= 7);
        }
    }

    /** Without comments and texts. */
    private static String bare(String source) {
        return source.replaceAll("(?s)/\\*.*?\\*/", " ").replaceAll("//[^\n]*", " ")
            .replaceAll("\"[^\"]*\"", "\"\"");
    }

    private static void words(String source) {
        String bare = bare(source);
        for (String word : RULED_OUT) {
            Due.holds("no " + word, !Pattern.compile("\\b" + word + "\\b").matcher(bare).find());
        }
        Due.holds("no lambda, no method reference", !bare.contains("->") && !bare.contains("::"));
        Due.holds("no texts joined by +", !bare.contains("\" +") && !bare.contains("+ \""));
        Due.holds("nothing of the system but arraycopy", !bare.replace("System.arraycopy", "").contains("System"));
        Due.holds("bytes 32 .. 126 alone", source.chars().allMatch(c -> c == '\n' || c >= 32 && c < 127));
    }

    private static void library(String source) {
        Matcher calls = Pattern.compile("\\b(Math|Integer|Long|System|Arrays|String|List)\\.(\\w+)").matcher(source);
        String free = " Math.max Math.min Math.abs Integer.bitCount System.arraycopy Long.MIN_VALUE ";
        while (calls.find()) {
            Due.holds(calls.group() + " is in the library", free.contains(" " + calls.group() + " "));
        }
        Matcher made = Pattern.compile("\\bnew (\\w+)").matcher(source);
        while (made.find()) {
            boolean own = source.contains(" class " + made.group(1) + " ");
            Due.holds("new " + made.group(1), own || "int long".contains(made.group(1)));
        }
    }

    /** By its indentation: a method ends at the first } that stands as far in as the method. */
    private static void lengths(String[] lines) {
        Pattern head = Pattern.compile("( {4}| {8})\\w[^=;]*\\(.*\\) \\{");
        for (int k = 0; k < lines.length; k++) {
            Matcher method = head.matcher(lines[k]);
            if (method.matches() && !lines[k].trim().matches("(if|for|while|switch) .*")) {
                int end = k;
                while (end < lines.length - 1 && !lines[end].equals(method.group(1) + "}")) {
                    end++;
                }
                Due.holds(lines[k].trim() + " has sixty lines at most", end - k < 60);
            }
        }
    }
}
