import java.io.IOException;
import java.lang.reflect.Method;
import java.lang.reflect.Modifier;
import java.nio.file.Files;
import java.nio.file.Path;
import java.util.regex.Matcher;
import java.util.regex.Pattern;

/** README.md: every call that it shows answers what stands behind it, and it names the whole face. */
public final class ReadmeTest {
    private static final Pattern CALL = Pattern.compile("shop\\.(\\w+)\\((.*?)\\); +// ([-\\w]+).*");
    private static int calls = 0;
    private static int wrong = 0;

    private static Method named(String name) {
        for (Method m : TagWorkshop.class.getMethods()) if (m.getName().equals(name)) return m;
        throw new IllegalStateException("README.md shows a call that is none: " + name);
    }

    private static Object argument(String text, Class<?> type) {
        if (type == boolean.class) return Boolean.valueOf(text);
        return Integer.valueOf(text);
    }

    private static Object answer(TagWorkshop shop, String name, String list) throws ReflectiveOperationException {
        Method call = named(name);
        String[] texts = list.isEmpty() ? new String[0] : list.split(", ");
        Object[] arguments = new Object[texts.length];
        for (int i = 0; i < texts.length; i++) arguments[i] = argument(texts[i], call.getParameterTypes()[i]);
        return call.invoke(shop, arguments);
    }

    private static void look(String line, Object got, String due) {
        calls++;
        String want = due.equals("NONE") ? "-1" : due.equals("LIMIT") ? "-2" : due;
        if (!got.toString().equals(want)) {
            wrong++;
            System.out.println("README.md: " + line + ": the answer is " + got);
        }
    }

    public static void main(String[] args) throws IOException, ReflectiveOperationException {
        String readme = Files.readString(Path.of("README.md"));
        TagWorkshop shop = new TagWorkshop();
        for (String line : readme.split("\n")) {
            if (!line.startsWith("shop.")) continue;
            Matcher m = CALL.matcher(line);
            if (!m.matches()) throw new IllegalStateException("no answer stands behind the call: " + line);
            look(line, answer(shop, m.group(1), m.group(2)), m.group(3));
        }
        for (Method m : TagWorkshop.class.getDeclaredMethods()) {
            if (!Modifier.isPublic(m.getModifiers()) || readme.contains("`" + m.getName() + "(")) continue;
            wrong++;
            System.out.println("README.md does not name " + m.getName());
        }
        System.out.println("ReadmeTest: " + calls + " calls, " + wrong + " wrong");
        if (wrong != 0 || calls == 0) System.exit(1);
    }
}
