import java.io.IOException;
import java.lang.reflect.Field;
import java.lang.reflect.Method;
import java.lang.reflect.Modifier;
import java.nio.file.Files;
import java.nio.file.Path;
import java.util.ArrayList;
import java.util.List;
import java.util.Set;
import java.util.regex.Matcher;
import java.util.regex.Pattern;

/** The rules of LANGUAGE.md that can be seen in the class's text or in its classes. */
public final class LanguageTest {
    private static final int MOST_LINES = 60, MOST_PARAMETERS = 7, MOST_CLASSES = 12, MOST_FIELDS = 20;
    /** What the rules leave out, or what this class has no need of. */
    private static final String[] NO_WORDS = {
        "import", "package", "throw", "throws", "try", "catch", "finally", "synchronized", "assert", "volatile",
        "native", "double", "float", "Object", "Thread", "Random",
    };
    private static final Set<String> LIBRARY = Set.of("Math.max", "Math.min", "System.arraycopy");
    private static int wrong = 0;

    private static void due(int rule, String what, boolean holds) {
        if (holds) return;
        wrong++;
        System.out.println("LANGUAGE.md, rule " + rule + ": " + what);
    }

    private static void words(String text) {
        for (String word : NO_WORDS) due(4, word, !Pattern.compile("\\b" + word + "\\b").matcher(text).find());
        due(2, "a lambda", !text.contains("->"));
        due(2, "a method reference", !text.contains("::"));
        due(5, "a static block", !Pattern.compile("\\bstatic\\s*\\{").matcher(text).find());
    }

    private static void library(String text, Set<String> ownClasses) {
        Matcher m = Pattern.compile("\\b([A-Z][a-z]\\w*)\\.(\\w+)\\(").matcher(text);
        while (m.find()) {
            String call = m.group(1) + "." + m.group(2);
            due(4, call, ownClasses.contains(m.group(1)) || LIBRARY.contains(call));
        }
    }

    /** A method that makes an object would make it once for every call of a run. */
    private static void objects(String text) {
        for (String line : text.split("\n")) {
            if (!line.contains("new ")) continue;
            due(12, line.trim(), line.matches(" +private final \\S+ \\w+ = new .*;")
                    || line.matches(" {8}(machine|tagSystem|cyclicSystem|code) = new \\w+\\(\\);"));
        }
    }

    private static void lengths(String text) {
        String[] lines = text.split("\n");
        for (int from = 0; from < lines.length; from++) {
            if (!lines[from].matches("( {4}| {8})\\S.*\\) \\{")) continue;
            String end = lines[from].replaceAll("\\S.*", "") + "}";
            int to = from;
            while (to < lines.length && !lines[to].equals(end)) to++;
            due(11, lines[from].trim() + " has too many lines", to - from < MOST_LINES);
        }
    }

    private static void shape(Class<?> type) {
        int fields = 0;
        for (Field f : type.getDeclaredFields()) {
            boolean isStatic = Modifier.isStatic(f.getModifiers());
            if (!isStatic) fields++;
            due(5, f + " is static and not final", !isStatic || Modifier.isFinal(f.getModifiers()));
        }
        due(11, type + " has too many fields", fields <= MOST_FIELDS);
        for (Method m : type.getDeclaredMethods()) {
            due(11, m + " has too many parameters", m.getParameterCount() <= MOST_PARAMETERS);
        }
    }

    public static void main(String[] args) throws IOException {
        String source = Files.readString(Path.of("src/main/java/TagWorkshop.java"));
        String text = source.replaceAll("(?s)/\\*.*?\\*/", "").replaceAll("//[^\n]*", "");
        List<Class<?>> classes = new ArrayList<>(List.of(TagWorkshop.class.getDeclaredClasses()));
        classes.add(TagWorkshop.class);
        due(11, "too many classes", classes.size() <= MOST_CLASSES);
        for (Class<?> type : classes) shape(type);
        words(text);
        library(text, Set.copyOf(classes.stream().map(Class::getSimpleName).toList()));
        objects(text);
        lengths(text);
        due(3, "characters past 127", source.chars().allMatch(c -> c < 128));
        System.out.println("LanguageTest: " + wrong + " wrong");
        if (wrong != 0) System.exit(1);
    }
}
