import java.lang.reflect.Array;
import java.lang.reflect.Constructor;
import java.lang.reflect.Field;
import java.lang.reflect.Method;
import java.lang.reflect.Modifier;
import java.util.ArrayList;
import java.util.Arrays;
import java.util.List;
import java.util.TreeSet;

/** The public face of the document and no other, and what one object takes of the room. */
public final class FaceTest {
    private static final String FACE = "int appendant(int,int)|int compileCyclic()|int compileTag()|"
            + "int cyclicBit(int)|int cyclicNow(int)|int decodeCyclic(int)|int decodeTag(int)|"
            + "boolean extend(int,int)|boolean halts(int,boolean)|int lockStep(int)|int nextBorder()|"
            + "boolean ownTag(int)|int production(int,int)|boolean put(int)|int roundCost(int,int,int,int)|"
            + "boolean rule(int,int,int,int,int)|int spoil(int,int,int)|int stepCyclic(int)|int stepTag(int)|"
            + "int stepTape(int)|int tagLetter(int)|int tagNow(int)|boolean tape(int,int,int,int)|int tapeNow(int)";
    // The room has 7.3 million; a run in which each of its 513 calls made an object would still fit.
    private static final int MOST_ELEMENTS = 7_300_000 / 513;
    private static int wrong = 0;

    private static void due(String what, Object got, Object want) {
        if (!got.equals(want)) {
            wrong++;
            System.out.println(what + ": " + got + ", due is " + want);
        }
    }

    private static String textOf(Method m) {
        List<String> types = new ArrayList<>();
        for (Class<?> type : m.getParameterTypes()) types.add(type.getSimpleName());
        return m.getReturnType().getSimpleName() + " " + m.getName() + "(" + String.join(",", types) + ")";
    }

    private static void methods() {
        TreeSet<String> face = new TreeSet<>();
        TreeSet<String> names = new TreeSet<>();
        for (Method m : TagWorkshop.class.getDeclaredMethods()) {
            if (Modifier.isPublic(m.getModifiers())) {
                face.add(textOf(m));
                names.add(m.getName());
            }
        }
        due("the face", face, new TreeSet<>(Arrays.asList(FACE.split("\\|"))));
        for (Method m : TagWorkshop.class.getDeclaredMethods()) {
            if (Modifier.isPublic(m.getModifiers())) continue;
            due("private " + m.getName(), Modifier.isPrivate(m.getModifiers()), true);
            due("a private method named " + m.getName(), names.contains(m.getName()), false);
        }
    }

    private static void others() {
        due("public and final", TagWorkshop.class.getModifiers(), Modifier.PUBLIC | Modifier.FINAL);
        Constructor<?>[] constructors = TagWorkshop.class.getDeclaredConstructors();
        due("constructors", constructors.length, 1);
        due("the constructor's parameters", constructors[0].getParameterCount(), 0);
        due("the constructor is public", Modifier.isPublic(constructors[0].getModifiers()), true);
        TreeSet<String> seen = new TreeSet<>();
        for (Field f : TagWorkshop.class.getDeclaredFields()) {
            if (!Modifier.isPrivate(f.getModifiers())) seen.add(Modifier.toString(f.getModifiers()) + " " + f.getName());
        }
        due("constants", seen, new TreeSet<>(List.of("public static final NONE", "public static final LIMIT")));
        for (Class<?> inside : TagWorkshop.class.getDeclaredClasses()) {
            due(inside + " is static", Modifier.isStatic(inside.getModifiers()), true);
            due(inside + " is public", Modifier.isPublic(inside.getModifiers()), false);
        }
    }

    /** Fields and elements of an object and all that it holds; nothing is held twice. */
    private static int elementsOf(Object o) throws IllegalAccessException {
        if (o.getClass().isArray()) return Array.getLength(o);
        int count = 0;
        for (Field f : o.getClass().getDeclaredFields()) {
            if (Modifier.isStatic(f.getModifiers())) continue;
            count++;
            f.setAccessible(true);
            if (!f.getType().isPrimitive()) count += elementsOf(f.get(o));
        }
        return count;
    }

    private static void room() throws IllegalAccessException {
        int elements = elementsOf(new TagWorkshop());
        due(elements + " elements are few enough", elements <= MOST_ELEMENTS, true);
    }

    public static void main(String[] args) throws IllegalAccessException {
        methods();
        others();
        room();
        System.out.println("FaceTest: " + wrong + " wrong");
        if (wrong != 0) System.exit(1);
    }
}
