import java.lang.reflect.InvocationTargetException;
import java.lang.reflect.Method;
import java.util.ArrayList;
import java.util.HashMap;
import java.util.List;
import java.util.Map;

/**
 * A run of calls on a new object, as they are written: "field(8) -> 0; field(0) -> IAE". A call behind
 * which no answer stands must just not throw.
 *
 * <p>Beside the object goes a twin, which is told the same but for the calls that are refused, and is
 * asked nothing. At the end both must answer alike, whatever is asked and done then: so a refused call,
 * and a question, has changed nothing.
 */
final class Run {
    /** The document leaves free what an object answers behind these. */
    private static final int MOST_CALLS = 512;
    private static final List<String> QUESTIONS =
        List.of("fault", "stage", "out", "byteAt", "word", "entries", "count");
    private static final Map<String, Method> FACE = face();
    private static final List<Run> OPEN = new ArrayList<>();

    private final MatchPipe pipe = new MatchPipe();
    private final MatchPipe twin = new MatchPipe();
    private int calls;

    Run(String... rows) {
        OPEN.add(this);
        then(rows);
    }

    Run then(String... rows) {
        for (String row : rows) {
            for (String one : row.split(";")) {
                make(one.trim());
            }
        }
        return this;
    }

    /** The row n times, with the round's number, from 0 on, for each # in it. */
    Run times(int n, String row) {
        for (int i = 0; i < n; i++) {
            then(row.replace("#", Integer.toString(i)));
        }
        return this;
    }

    /** The row once for each of these, which stands for # in it. */
    Run each(String row, int... values) {
        for (int value : values) {
            then(row.replace("#", Integer.toString(value)));
        }
        return this;
    }

    /** Table and action of this number, with one key, EXACT, and one doing, and a step that does it. */
    Run tableStep(int number, int key, String doing) {
        return then("action() -> " + number, "doing(" + number + "," + doing + ")",
            "table(" + key + ",-1,0," + (1 << number) + "," + number + ") -> " + number, "apply(" + number + ")");
    }

    /** A packet of these bytes, two digits each, which is operation number. */
    Run sends(int number, String bytes) {
        String rest = bytes.replace(" ", "");
        while (!rest.isEmpty()) {
            int n = Math.min(40, rest.length());
            String padded = rest.substring(0, n) + "0".repeat(40 - n);
            StringBuilder words = new StringBuilder();
            for (int i = 0; i < 5; i++) {
                words.append(i == 0 ? "0x" : ",0x").append(padded, 8 * i, 8 * i + 8);
            }
            then("feed(" + words + ")", "end(" + n / 2 + ")");
            rest = rest.substring(n);
        }
        return then("packet() -> " + number);
    }

    /** What out() tells of an operation: its kind, how it went, PORT, bytes, cycle. */
    Run out(int operation, int... want) {
        for (int what = 0; what < want.length; what++) {
            then("out(" + operation + "," + what + ") -> " + want[what]);
        }
        return this;
    }

    Run bytes(int operation, String want) {
        String digits = want.replace(" ", "");
        int n = digits.length() / 2;
        for (int i = 0; i < n; i++) {
            then("byteAt(" + operation + "," + i + ") -> 0x" + digits.substring(2 * i, 2 * i + 2));
        }
        return then("byteAt(" + operation + "," + n + ") -> NONE");
    }

    Run counts(int... want) {
        for (int what = 0; what < want.length; what++) {
            then("count(" + what + ") -> " + want[what]);
        }
        return this;
    }

    private void make(String row) {
        if (row.isEmpty()) {
            return;
        }
        String[] parts = row.split("->");
        String call = parts[0].trim();
        String name = call.substring(0, call.indexOf('('));
        if (calls == MOST_CALLS) {
            Check.same(call, "within " + MOST_CALLS + " calls", "too late");
        }
        calls++;
        String got = answer(pipe, call);
        String want = parts.length == 2 ? due(parts[1].trim()) : got.startsWith("throws") ? "no exception" : got;
        Check.same(call, want, got);
        boolean refused = name.equals("end") ? got.equals("-1") : got.startsWith("throws") && !name.equals("lay");
        if (!refused && !QUESTIONS.contains(name)) {
            Check.same(call + " of the twin", got, answer(twin, call));
        }
    }

    private static String due(String want) {
        switch (want) {
            case "IAE": return "throws.IllegalArgumentException";
            case "ISE": return "throws.IllegalStateException";
            case "IOOBE": return "throws.IndexOutOfBoundsException";
            case "nothing": return "nothing";
            default: return Integer.toString(number(want));
        }
    }

    private static int number(String text) {
        switch (text) {
            case "NONE": return MatchPipe.NONE;
            case "MIN": return Integer.MIN_VALUE;
            case "MAX": return Integer.MAX_VALUE;
            default: return (int) (long) Long.decode(text);
        }
    }

    private static String answer(MatchPipe pipe, String call) {
        int open = call.indexOf('(');
        String inside = call.substring(open + 1, call.length() - 1);
        String[] texts = inside.isEmpty() ? new String[0] : inside.split(",");
        Object[] values = new Object[texts.length];
        for (int i = 0; i < texts.length; i++) {
            values[i] = number(texts[i].trim());
        }
        try {
            Object got = FACE.get(call.substring(0, open)).invoke(pipe, values);
            return got == null ? "nothing" : got.toString();
        } catch (InvocationTargetException e) {
            return "throws." + e.getCause().getClass().getSimpleName();
        } catch (IllegalAccessException e) {
            return e.toString();
        }
    }

    private static Map<String, Method> face() {
        Map<String, Method> found = new HashMap<>();
        for (Method m : MatchPipe.class.getMethods()) {
            if (m.getDeclaringClass() == MatchPipe.class) {
                found.put(m.getName(), m);
            }
        }
        return found;
    }

    static void closeAll() {
        for (Run run : OPEN) {
            run.compareTwins();
        }
        OPEN.clear();
    }

    private void compareTwins() {
        boolean laid = pipe.count(5) > 0;
        int came = pipe.count(0);
        int gone = pipe.count(3);
        askAll(gone);
        alike("end(0)");
        if (!laid) {
            tellMore();
        }
        if (pipe.count(5) > 0) {
            useMore(came);
        }
    }

    private void alike(String call) {
        // Ten are left, since compareTwins() itself asks the object a few times.
        if (calls < MOST_CALLS - 10) {
            calls++;
            Check.same(call + " at the end", answer(twin, call), answer(pipe, call));
        }
    }

    private void askAll(int gone) {
        for (int i = 0; i < 6; i++) {
            alike("count(" + i + ")");
            alike("fault(" + i + ")");
        }
        for (int i = 0; i < 16; i++) {
            alike("stage(" + i + ")");
        }
        for (int i = 0; i < 8; i++) {
            alike("entries(" + i + ")");
        }
        for (int i = 0; i < 16; i++) {
            alike("word(" + i / 4 + "," + i % 4 * 5 + ")");
        }
        for (int operation = Math.max(0, gone - 5); operation < gone; operation++) {
            askOf(operation);
        }
    }

    private void askOf(int operation) {
        for (int what = 0; what < 5; what++) {
            alike("out(" + operation + "," + what + ")");
        }
        for (int i = 0; i < 6; i++) {
            alike("byteAt(" + operation + "," + i + ")");
        }
    }

    private void tellMore() {
        String[] more = {
            "lay()", "fault(0)", "fault(1)", "field(5)", "state(0,-1,-1,-1,0)", "action()", "doing(0,4,0,77,0)",
            "choice(0,0,0,-1)", "table(0,-1,2,1,0)", "apply(0)", "test(0,0,0,16)", "lay()", "fault(0)", "fault(1)",
            "otherwise(0,-1)", "otherwise(1,-1)", "lay()", "fault(0)", "fault(1)", "count(5)", "stage(0)", "stage(1)",
        };
        for (String call : more) {
            alike(call);
        }
    }

    private void useMore(int came) {
        String[] more = {
            "packet()", "end(20)", "packet()", "feed(-1,-1,-1,-1,-1)", "end(20)", "insert(0,0,0,1,1)", "packet()",
            "key(255,255,255,255)", "insert(0,0,0,5,1)", "feed(-1,0,0,0,0)", "end(4)", "packet()", "remove(0)", "run(100)",
        };
        for (String call : more) {
            alike(call);
        }
        for (int operation = came; operation < came + 7; operation++) {
            askOf(operation);
        }
        askAll(0);
    }
}
