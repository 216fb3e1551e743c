import java.lang.reflect.Constructor;
import java.lang.reflect.Field;
import java.lang.reflect.Method;
import java.lang.reflect.Modifier;
import java.util.Arrays;
import java.util.Set;
import java.util.StringJoiner;
import java.util.TreeSet;

/** The public face: every constant, constructor and method of the document, and nothing beside. */
final class FaceTest {
    private static final String I = "IndexOutOfBoundsException";
    private static final String A = "IllegalArgumentException";
    private static final String S = "IllegalStateException";

    private FaceTest() {
    }

    static void all() throws IllegalAccessException {
        constants();
        constructors();
        methods();
    }

    private static void constants() throws IllegalAccessException {
        Check.due("NONE", -1, Queuefloat.NONE);
        Check.due("FREE", 0, Queuefloat.FREE);
        Check.due("SHORT", 1, Queuefloat.SHORT);
        Check.due("OVER", 2, Queuefloat.OVER);
        Check.due("GONE", 3, Queuefloat.GONE);
        Set<String> seen = new TreeSet<>();
        for (Field field : Queuefloat.class.getDeclaredFields()) {
            if (!Modifier.isPrivate(field.getModifiers())) {
                seen.add(Modifier.toString(field.getModifiers()) + " " + field.getType() + " " + field.getName());
            }
        }
        Set<String> want = new TreeSet<>();
        for (String name : new String[] {"NONE", "FREE", "SHORT", "OVER", "GONE"}) {
            want.add("public static final int " + name);
        }
        Check.due("the fields of the face", want.toString(), seen.toString());
    }

    private static void constructors() {
        Constructor<?>[] all = Queuefloat.class.getDeclaredConstructors();
        Check.due("constructors", 1, all.length);
        Check.due("the constructor", "public Queuefloat()", all[0].toString());
        Check.due("the class", "public final", Modifier.toString(Queuefloat.class.getModifiers()));
    }

    private static void methods() {
        Set<String> want = new TreeSet<>(Arrays.asList(
                face("int", "fund", 2, I, A, S), face("int", "setFloor", 2, I, A),
                face("int", "setBound", 3, I, A), face("int", "givePapers", 2, I, A, S),
                face("int", "account", 1, I), face("int", "papers", 1, I),
                face("boolean", "isOpen", 1, I), face("int", "paid", 2, I),
                face("int", "pay", 4, I, A, S), face("int", "drop", 1, I, S),
                face("int", "setSmall", 1, A), face("int", "run", 0),
                face("int", "queued", 2, I), face("int", "why", 1, I),
                face("boolean", "canAny", 0, S), face("void", "setPrice", 2, A),
                face("int", "lend", 5, I, A, S), face("int", "loans", 0),
                face("int", "morning", 0), face("int", "sold", 0)));
        Set<String> seen = new TreeSet<>();
        for (Method method : Queuefloat.class.getDeclaredMethods()) {
            if (!Modifier.isPrivate(method.getModifiers()) && !method.isSynthetic()) {
                seen.add(method.toString().replace("Queuefloat.", "").replace("java.lang.", ""));
            }
        }
        Check.due("the methods of the face", want.toString(), seen.toString());
    }

    private static String face(String type, String name, int arguments, String... exceptions) {
        StringJoiner list = new StringJoiner(",", "(", ")");
        for (int i = 0; i < arguments; i++) {
            list.add("int");
        }
        String head = "public " + type + " " + name + list;
        return exceptions.length == 0 ? head : head + " throws " + String.join(",", exceptions);
    }
}
