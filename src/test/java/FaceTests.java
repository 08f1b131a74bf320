import java.lang.reflect.Constructor;
import java.lang.reflect.Field;
import java.lang.reflect.Method;
import java.lang.reflect.Modifier;
import java.util.Arrays;
import java.util.Map;
import java.util.Set;
import java.util.StringJoiner;
import java.util.TreeSet;

/** The face is that of the document, and there is nothing else to be seen from outside. */
public final class FaceTests {
    private static final String[] FACE = {
        "clear/0/void", "field/1/int", "state/5/int", "choice/4/void", "otherwise/2/void", "action/0/int",
        "doing/5/void", "table/5/int", "apply/1/int", "test/4/int", "lay/0/int", "fault/1/int", "stage/1/int",
        "feed/5/void", "end/1/int", "packet/0/int", "key/4/void", "insert/5/int", "remove/1/int", "run/1/int",
        "out/2/int", "byteAt/2/int", "word/2/int", "entries/1/int", "count/1/int",
    };
    /** What the head of each call names, in the document's order. */
    private static final Map<String, String> THROWS = Map.ofEntries(
        Map.entry("field", "IAE ISE"), Map.entry("state", "IOOBE ISE"), Map.entry("choice", "IOOBE ISE"),
        Map.entry("otherwise", "IOOBE ISE"), Map.entry("action", "ISE"), Map.entry("doing", "IOOBE IAE ISE"),
        Map.entry("table", "IOOBE IAE ISE"), Map.entry("apply", "IOOBE ISE"), Map.entry("test", "IOOBE IAE ISE"),
        Map.entry("lay", "ISE IAE"), Map.entry("packet", "ISE"), Map.entry("insert", "IOOBE ISE"),
        Map.entry("remove", "IOOBE ISE"), Map.entry("run", "ISE IAE"), Map.entry("word", "ISE"),
        Map.entry("entries", "ISE"));
    private static final Map<Class<?>, String> SHORT = Map.of(IllegalArgumentException.class, "IAE",
        IllegalStateException.class, "ISE", IndexOutOfBoundsException.class, "IOOBE");

    public static void main(String[] args) {
        Check.begin("the face");
        methods();
        exceptions();
        privateNames();
        fields();
        constructors();
        classes();
        Check.close("FaceTests");
    }

    private static void methods() {
        Set<String> open = new TreeSet<>();
        for (Method m : MatchPipe.class.getDeclaredMethods()) {
            if (isHidden(m.getModifiers()) || m.isSynthetic()) {
                continue;
            }
            open.add(m.getName() + "/" + m.getParameterCount() + "/" + m.getReturnType());
            Check.same(m + " is of the object", true, isPublic(m.getModifiers()) && !Modifier.isStatic(m.getModifiers()));
            for (Class<?> type : m.getParameterTypes()) {
                Check.same("what " + m.getName() + " takes", int.class, type);
            }
        }
        Check.same("the methods", new TreeSet<>(Arrays.asList(FACE)), open);
    }

    private static void exceptions() {
        for (Method m : MatchPipe.class.getDeclaredMethods()) {
            if (isPublic(m.getModifiers())) {
                StringJoiner named = new StringJoiner(" ");
                for (Class<?> type : m.getExceptionTypes()) {
                    named.add(SHORT.getOrDefault(type, type.getName()));
                }
                Check.same("what " + m.getName() + " throws", THROWS.getOrDefault(m.getName(), ""), named.toString());
            }
        }
    }

    private static void privateNames() {
        for (Method m : MatchPipe.class.getDeclaredMethods()) {
            boolean taken = Arrays.stream(FACE).anyMatch(one -> one.startsWith(m.getName() + "/"));
            Check.same(m + " has a name of its own", false, isHidden(m.getModifiers()) && taken);
        }
    }

    private static void fields() {
        for (Field f : MatchPipe.class.getDeclaredFields()) {
            Check.same(f + " is private but for NONE", !f.getName().equals("NONE"), isHidden(f.getModifiers()));
        }
        Check.same("NONE", -1, MatchPipe.NONE);
    }

    private static void constructors() {
        int open = 0;
        for (Constructor<?> c : MatchPipe.class.getDeclaredConstructors()) {
            open += isHidden(c.getModifiers()) ? 0 : 1;
        }
        Check.same("the constructors", 1, open);
    }

    private static void classes() {
        Check.same("the class is public", true, isPublic(MatchPipe.class.getModifiers()));
        Check.same("the class is final", true, Modifier.isFinal(MatchPipe.class.getModifiers()));
        for (Class<?> c : MatchPipe.class.getDeclaredClasses()) {
            Check.same(c + " is public", false, isPublic(c.getModifiers()));
        }
    }

    private static boolean isHidden(int modifiers) {
        return Modifier.isPrivate(modifiers);
    }

    private static boolean isPublic(int modifiers) {
        return Modifier.isPublic(modifiers);
    }
}
