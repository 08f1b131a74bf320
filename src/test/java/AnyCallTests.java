import java.lang.reflect.InvocationTargetException;
import java.lang.reflect.Method;
import java.lang.reflect.Modifier;
import java.util.ArrayList;
import java.util.Arrays;
import java.util.Comparator;
import java.util.List;
import java.util.Random;

/**
 * Any call, with any arguments, in any state: it answers as the slow pipe does, and what it throws is
 * what its head names, that class itself and none below it, as the machine's own would be.
 */
public final class AnyCallTests {
    private static final int RUNS = 1500;
    private static final int MOST_CALLS = 512;
    private static final int[] EDGES = {
        -3, -2, -1, 0, 1, 3, 4, 5, 7, 8, 9, 15, 16, 17, 20, 21, 31, 32, 33, 60, 61, 64, 100, 101, 255, 256,
        1 << 16, 1 << 30, Integer.MIN_VALUE, Integer.MIN_VALUE + 1, Integer.MAX_VALUE - 1, Integer.MAX_VALUE,
    };

    private final Random random;
    private final int seed;
    private final MatchPipe fast = new MatchPipe();
    private final SlowPipe slow = new SlowPipe();

    private static final List<Method> FACE = face();
    private static int laidRuns;
    private static int thrown;
    private static int operationsOut;

    private AnyCallTests(int ofSeed) {
        seed = ofSeed;
        random = new Random(ofSeed);
    }

    public static void main(String[] args) throws ReflectiveOperationException {
        for (int seed = 1; seed <= RUNS && Check.wrongSoFar() < 10; seed++) {
            AnyCallTests run = new AnyCallTests(seed);
            for (int i = 0; i < MOST_CALLS; i++) {
                run.call(run.nextOf(i));
            }
            laidRuns += run.slow.count(5) > 0 ? 1 : 0;
            operationsOut += run.slow.count(3);
        }
        System.out.println(laidRuns + " runs were laid, " + operationsOut + " operations went out, "
            + thrown + " calls threw");
        Check.same("runs are worth it", true, laidRuns > RUNS / 5 && operationsOut > RUNS && thrown > RUNS);
        Check.close("AnyCallTests");
    }

    private static List<Method> face() {
        List<Method> found = new ArrayList<>(Arrays.asList(MatchPipe.class.getDeclaredMethods()));
        found.removeIf(m -> !Modifier.isPublic(m.getModifiers()));
        // The order in which a machine lists methods is free, but a seed must always tell the same run.
        found.sort(Comparator.comparing(Method::getName));
        return found;
    }

    /** Fields and states first, or hardly anything could be told of them. */
    private Method nextOf(int call) {
        if (call < 4) {
            return named("field");
        }
        if (call < 8) {
            return named("state");
        }
        Method any = FACE.get(random.nextInt(FACE.size()));
        boolean undoes = any.getName().equals("clear");
        return undoes && random.nextInt(60) > 0 ? named("run") : any;
    }

    private static Method named(String name) {
        return FACE.stream().filter(m -> m.getName().equals(name)).findFirst().orElseThrow();
    }

    private int argument() {
        switch (random.nextInt(12)) {
            case 0: return EDGES[random.nextInt(EDGES.length)];
            case 1: return random.nextInt();
            case 2: return random.nextInt(64);
            case 3: return -1;
            default: return random.nextInt(4);
        }
    }

    private void call(Method method) throws ReflectiveOperationException {
        Object[] with = new Object[method.getParameterCount()];
        Arrays.setAll(with, i -> argument());
        String text = "seed " + seed + ", " + method.getName() + Arrays.toString(with);
        Method slowMethod = SlowPipe.class.getDeclaredMethod(method.getName(), method.getParameterTypes());
        Object got = answer(fast, method, with);
        Check.same(text, "" + answer(slow, slowMethod, with), "" + got);
        if (got instanceof Class) {
            thrown++;
            Check.same(text + " throws what its head names", true,
                Arrays.asList(method.getExceptionTypes()).contains(got));
        }
    }

    private static Object answer(Object pipe, Method method, Object[] with) throws IllegalAccessException {
        try {
            return method.invoke(pipe, with);
        } catch (InvocationTargetException e) {
            return e.getCause().getClass();
        }
    }
}
