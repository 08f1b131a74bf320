import java.util.function.IntSupplier;

/** Compares answers with those that are due, and counts what is wrong. */
final class Check {
    static final String STATE = "throws.IllegalStateException";
    static final String ARGUMENT = "throws.IllegalArgumentException";
    static final String INDEX = "throws.IndexOutOfBoundsException";

    private static int wrong = 0;
    private static int done = 0;

    private Check() {
    }

    static void due(String call, int want, IntSupplier got) {
        due(call, Integer.toString(want), got);
    }

    static void due(String call, String want, IntSupplier got) {
        same(call, want, answer(got));
    }

    static void dueVoid(String call, String want, Runnable got) {
        same(call, want, answer(got));
    }

    static void same(String call, String want, String got) {
        done++;
        if (!want.equals(got)) {
            wrong++;
            System.out.println(call + " answered " + got + ", due is " + want);
        }
    }

    static String answer(IntSupplier call) {
        try {
            return Integer.toString(call.getAsInt());
        } catch (RuntimeException e) {
            return "throws." + e.getClass().getSimpleName();
        }
    }

    static String answer(Runnable call) {
        try {
            call.run();
            return "nothing";
        } catch (RuntimeException e) {
            return "throws." + e.getClass().getSimpleName();
        }
    }

    static int wrongSoFar() {
        return wrong;
    }

    static void close(String name) {
        System.out.println(name + ": " + done + " answers, " + wrong + " not as due");
        if (wrong != 0) {
            System.exit(1);
        }
    }
}
