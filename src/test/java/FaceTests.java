import java.lang.reflect.Constructor;
import java.lang.reflect.Field;
import java.lang.reflect.Method;
import java.lang.reflect.Modifier;
import java.util.ArrayList;
import java.util.Arrays;
import java.util.HashSet;
import java.util.List;
import java.util.Set;

/** The face is that of the document, and there is nothing else to be seen from outside. */
public final class FaceTests {
    private static final String[] FACE = {
        "clear/0/void", "field/1/int", "state/5/int", "choice/4/void", "otherwise/2/void", "action/0/int",
        "doing/5/void", "table/5/int", "apply/1/int", "test/4/int", "lay/0/int", "fault/1/int", "stage/1/int",
        "feed/5/void", "end/1/int", "packet/0/int", "key/4/void", "insert/5/int", "remove/1/int", "run/1/int",
        "out/2/int", "byteAt/2/int", "word/2/int", "entries/1/int", "count/1/int",
    };

    public static void main(String[] args) {
        Set<String> names = new HashSet<>();
        List<String> open = new ArrayList<>();
        for (Method m : MatchPipe.class.getDeclaredMethods()) {
            if (!Modifier.isPrivate(m.getModifiers()) && !m.isSynthetic()) {
                open.add(m.getName() + "/" + m.getParameterCount() + "/" + m.getReturnType());
                names.add(m.getName());
                Check.same(m + " is public, of the object", "true",
                    "" + (Modifier.isPublic(m.getModifiers()) && !Modifier.isStatic(m.getModifiers())));
            }
        }
        for (Method m : MatchPipe.class.getDeclaredMethods()) {
            if (Modifier.isPrivate(m.getModifiers())) {
                Check.same(m + " has a name of its own", "false", "" + names.contains(m.getName()));
            }
        }
        String[] want = FACE.clone();
        String[] got = open.toArray(new String[0]);
        Arrays.sort(want);
        Arrays.sort(got);
        Check.same("the methods", Arrays.toString(want), Arrays.toString(got));
        for (Field f : MatchPipe.class.getDeclaredFields()) {
            boolean constant = f.getName().equals("NONE");
            Check.same(f + " is private but for NONE", "" + !constant, "" + Modifier.isPrivate(f.getModifiers()));
        }
        Constructor<?>[] made = MatchPipe.class.getDeclaredConstructors();
        Check.due("the constructors", 1, () -> made.length);
        Check.due("NONE", -1, () -> MatchPipe.NONE);
        Check.same("the class is final", "true", "" + Modifier.isFinal(MatchPipe.class.getModifiers()));
        for (Class<?> c : MatchPipe.class.getDeclaredClasses()) {
            Check.same(c + " is static and not public", "true",
                "" + (Modifier.isStatic(c.getModifiers()) && !Modifier.isPublic(c.getModifiers())));
        }
        Check.close("FaceTests");
    }
}
