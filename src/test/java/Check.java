import java.util.function.IntSupplier;

/** Compares answers with those that are due, and counts what is wrong. */
final class Check {
    private static int wrong = 0;
    private static int done = 0;
    private static String test = "";

    private Check() {
    }

    /** The test that is under way: its name stands ahead of each answer that is not as due. */
    static void begin(String name) {
        test = name + ": ";
    }

    static void same(String call, Object want, Object got) {
        done++;
        if (!want.equals(got)) {
            wrong++;
            System.out.println(test + call + " answered " + got + ", due is " + want);
        }
    }

    static String answer(IntSupplier call) {
        try {
            return Integer.toString(call.getAsInt());
        } catch (RuntimeException e) {
            return "throws." + e.getClass().getSimpleName();
        }
    }

    static int wrongSoFar() {
        return wrong;
    }

    static void close(String name) {
        System.out.println(name + ": " + done + " answers, " + wrong + " not as due");
        if (wrong != 0) {
            System.exit(1);
        }
    }
}
