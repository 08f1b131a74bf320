import java.lang.reflect.Array;
import java.lang.reflect.Field;
import java.lang.reflect.Modifier;
import java.util.ArrayDeque;
import java.util.Collections;
import java.util.Deque;
import java.util.IdentityHashMap;
import java.util.Set;

/** An object is so small, new or used, that 512 of them fit in the room of one run. */
public final class RoomTests {
    private static final int CALLS = 512;
    private static final int MOST_OBJECTS = 600_000 / CALLS;
    private static final int MOST_ELEMENTS = 7_300_000 / CALLS;

    public static void main(String[] args) throws IllegalAccessException {
        MatchPipe pipe = new MatchPipe();
        isSmall("a new object", pipe);
        use(pipe);
        isSmall("a used object", pipe);
        Check.close("RoomTests");
    }

    private static void isSmall(String what, MatchPipe pipe) throws IllegalAccessException {
        int[] size = size(pipe);
        System.out.println(what + ": " + size[0] + " objects, " + size[1] + " fields and elements");
        Check.same(what + ", few objects", true, size[0] <= MOST_OBJECTS);
        Check.same(what + ", few fields and elements", true, size[1] <= MOST_ELEMENTS);
    }

    private static void use(MatchPipe pipe) {
        for (int round = 0; round < 2; round++) {
            pipe.field(8);
            pipe.state(0, -1, -1, -1, -1);
            pipe.action();
            pipe.doing(0, 7, 1, 0, 1);
            pipe.table(0, -1, 2, 1, 0);
            pipe.apply(0);
            pipe.lay();
            for (int i = 0; i < 30; i++) {
                pipe.key(i, 255, 0, 0);
                pipe.insert(0, i, 0, 1, 2);
                pipe.feed(i, i, i, i, i);
                pipe.end(20);
                pipe.packet();
                pipe.run(3);
            }
            pipe.clear();
        }
    }

    private static int[] size(Object root) throws IllegalAccessException {
        Set<Object> seen = Collections.newSetFromMap(new IdentityHashMap<>());
        Deque<Object> open = new ArrayDeque<>();
        open.add(root);
        int elements = 0;
        while (!open.isEmpty()) {
            Object o = open.remove();
            if (!seen.add(o)) {
                continue;
            }
            if (o.getClass().isArray()) {
                int n = Array.getLength(o);
                elements += n;
                for (int i = 0; i < n && !o.getClass().getComponentType().isPrimitive(); i++) {
                    open.add(Array.get(o, i));
                }
                continue;
            }
            for (Field f : o.getClass().getDeclaredFields()) {
                if (Modifier.isStatic(f.getModifiers())) {
                    continue;
                }
                elements++;
                f.setAccessible(true);
                Object held = f.get(o);
                if (!f.getType().isPrimitive() && held != null) {
                    open.add(held);
                }
            }
        }
        return new int[] {seen.size(), elements};
    }
}
