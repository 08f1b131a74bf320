import java.util.Arrays;
import java.util.Random;
import java.util.function.IntSupplier;

/** Random runs of calls, each on a new object, whose answers must be those of the slow pipe. */
public final class ModelTests {
    private static final int RUNS = 6000;
    private static final int MOST_CALLS = 512;
    private static final int NONE = MatchPipe.NONE;
    private static final int[] EDGES = {
        0, 1, -1, 2, 3, 7, 8, 15, 16, 255, 256, -2, -3, Integer.MIN_VALUE, Integer.MAX_VALUE,
    };

    private final Random random;
    private final int seed;
    private final MatchPipe fast = new MatchPipe();
    private final SlowPipe slow = new SlowPipe();
    private final boolean wild;
    private int calls;
    private int fields;
    private int states;
    private int actions;
    private int tables;
    private int steps;
    private int applied;

    private static final int[] faults = new int[7];
    private static int laidRuns;
    private static int wholePackets;
    private static int entriesTaken;

    private ModelTests(int ofSeed) {
        seed = ofSeed;
        random = new Random(ofSeed);
        wild = random.nextInt(5) == 0;
    }

    public static void main(String[] args) {
        for (int seed = 1; seed <= RUNS && Check.wrongSoFar() < 10; seed++) {
            ModelTests run = new ModelTests(seed);
            if (seed % 7 == 0) {
                run.build();
                run.use(20);
                run.clear();
            }
            run.build();
            run.use(70);
            run.lookAtAll();
        }
        System.out.println("faults of each kind: " + Arrays.toString(faults));
        System.out.println(laidRuns + " were laid, " + wholePackets + " packets and " + entriesTaken
            + " entries went through");
        Check.same("runs are worth it", "true",
            "" + (laidRuns > RUNS / 2 && wholePackets > RUNS && entriesTaken > RUNS));
        Check.close("ModelTests");
    }

    private void clear() {
        tell("clear()", fast::clear, slow::clear);
    }

    /** What both answer, or that they are no longer asked, since the document looks at 512 calls alone. */
    private String same(String call, IntSupplier ofFast, IntSupplier ofSlow) {
        if (calls == MOST_CALLS) {
            return "throws nothing, for it is not called";
        }
        calls++;
        String want = Check.answer(ofSlow);
        Check.same("seed " + seed + ", call " + calls + ", " + call, want, Check.answer(ofFast));
        return want;
    }

    private void tell(String call, Runnable toFast, Runnable toSlow) {
        same(call, () -> {
            toFast.run();
            return 0;
        }, () -> {
            toSlow.run();
            return 0;
        });
    }

    private static int grown(String answer, int before) {
        return answer.startsWith("throws") ? before : before + 1;
    }

    private int upTo(int most) {
        return random.nextInt(most + 1);
    }

    private boolean rarely() {
        return random.nextInt(wild ? 12 : 300) == 0;
    }

    private int edge() {
        return EDGES[random.nextInt(EDGES.length)];
    }

    private int one(int of) {
        return rarely() || of == 0 ? edge() : random.nextInt(of);
    }

    private int oneOrNone(int of) {
        return random.nextInt(3) == 0 ? NONE : one(of);
    }

    private int word() {
        switch (upTo(5)) {
            case 0: return random.nextInt();
            case 1: return edge();
            default: return upTo(4);
        }
    }

    private int mask() {
        switch (upTo(4)) {
            case 0: return word();
            case 1: return -1 << upTo(8);
            case 2: return upTo(255);
            default: return -1;
        }
    }

    private void build() {
        fields = 0;
        states = 0;
        actions = 0;
        tables = 0;
        steps = 0;
        applied = 0;
        times(2 + upTo(rarely() ? 16 : 5), this::field);
        times(1 + upTo(rarely() ? 8 : 3), this::state);
        times(upTo(6), this::choice);
        times(upTo(4), this::otherwise);
        times(1 + upTo(rarely() ? 16 : 5), this::action);
        times(upTo(10), this::doing);
        times(1 + upTo(rarely() ? 8 : 4), this::table);
        times(upTo(random.nextInt(8) == 0 ? 17 : tables + 2), this::step);
        times(8, this::layOrMend);
    }

    private static void times(int n, Runnable call) {
        for (int i = 0; i < n; i++) {
            call.run();
        }
    }

    private void field() {
        int width = rarely() ? edge() : random.nextInt(4) == 0 ? 1 + upTo(31) : 1 + upTo(7);
        fields = grown(same("field(" + width + ")", () -> fast.field(width), () -> slow.field(width)), fields);
    }

    private void state() {
        int a = random.nextInt(4) == 0 ? NONE : states % fields;
        int b = oneOrNone(fields);
        int c = upTo(3) > 0 ? NONE : oneOrNone(fields);
        int d = upTo(3) > 0 ? NONE : oneOrNone(fields);
        int on = oneOrNone(fields);
        String call = "state(" + a + ", " + b + ", " + c + ", " + d + ", " + on + ")";
        states = grown(same(call, () -> fast.state(a, b, c, d, on), () -> slow.state(a, b, c, d, on)), states);
    }

    private int way() {
        return rarely() ? edge() : random.nextInt(2) == 0 ? -1 - random.nextInt(5) / 4 : random.nextInt(Math.max(1, states));
    }

    private void choice() {
        int state = one(states);
        int value = word();
        int mask = mask();
        int to = way();
        tell("choice(" + state + ", " + value + ", " + mask + ", " + to + ")",
            () -> fast.choice(state, value, mask, to), () -> slow.choice(state, value, mask, to));
    }

    private void otherwise() {
        otherwise(one(states), way());
    }

    private void otherwise(int state, int to) {
        tell("otherwise(" + state + ", " + to + ")",
            () -> fast.otherwise(state, to), () -> slow.otherwise(state, to));
    }

    private void action() {
        actions = grown(same("action()", fast::action, slow::action), actions);
    }

    private void doing() {
        int action = one(actions);
        int kind = rarely() ? edge() : upTo(random.nextInt(2) == 0 ? 6 : 8);
        int x = kind == 7 ? one(4) : kind == 4 || kind == 6 ? word() : one(fields);
        int y = kind == 3 || kind == 5 ? one(2) : kind == 0 || kind == 4 ? word() : one(fields);
        int z = kind == 8 ? one(4) : word();
        tell("doing(" + action + ", " + kind + ", " + x + ", " + y + ", " + z + ")",
            () -> fast.doing(action, kind, x, y, z), () -> slow.doing(action, kind, x, y, z));
    }

    private void table() {
        int f = one(fields);
        int g = random.nextInt(2) == 0 ? NONE : one(fields);
        int how = rarely() ? edge() : g == NONE ? upTo(2) : upTo(2) + 4 * upTo(2);
        int miss = one(actions);
        int others = random.nextInt() & random.nextInt();
        int bits = rarely() ? edge() : (1 << (miss & 31) | others) & (1 << actions) - 1;
        String call = "table(" + f + ", " + g + ", " + how + ", " + bits + ", " + miss + ")";
        tables = grown(same(call, () -> fast.table(f, g, how, bits, miss), () -> slow.table(f, g, how, bits, miss)), tables);
    }

    private void step() {
        if (rarely() || applied < tables && random.nextInt(3) > 0) {
            int table = rarely() ? one(tables) : applied;
            applied++;
            steps = grown(same("apply(" + table + ")", () -> fast.apply(table), () -> slow.apply(table)), steps);
            return;
        }
        int field = one(fields);
        int relation = rarely() ? edge() : upTo(3);
        int word = word();
        int to = rarely() ? edge() : steps + 1 + random.nextInt(3) / 2;
        String call = "test(" + field + ", " + relation + ", " + word + ", " + to + ")";
        steps = grown(same(call, () -> fast.test(field, relation, word, to), () -> slow.test(field, relation, word, to)), steps);
    }

    private void layOrMend() {
        if (slow.count(5) > 0) {
            return;
        }
        same("lay()", fast::lay, slow::lay);
        lookAtStages();
        faults[slow.fault(0)]++;
        if (slow.fault(0) == 1) {
            state();
        } else if (slow.fault(0) == 2) {
            otherwise(slow.fault(1), NONE);
        } else if (slow.fault(0) == 3) {
            step();
        }
        laidRuns += slow.count(5) > 0 ? 1 : 0;
    }

    private void use(int rounds) {
        for (int i = 0; i < rounds; i++) {
            switch (upTo(9)) {
                case 0:
                case 1:
                    packet();
                    break;
                case 2:
                case 3:
                case 4:
                    entry();
                    break;
                case 5:
                    run(rarely() ? edge() : random.nextInt(6) == 0 ? upTo(100) : upTo(6));
                    break;
                case 6:
                    ask();
                    break;
                case 7:
                    end();
                    break;
                default:
                    run(1);
                    break;
            }
            if (rarely()) {
                wildCall();
            }
        }
    }

    private void lookAtAll() {
        run(100);
        look();
        for (int i = Math.max(0, slow.count(3) - 66); i < slow.count(0); i++) {
            told(i);
        }
    }

    private void run(int n) {
        same("run(" + n + ")", () -> fast.run(n), () -> slow.run(n));
    }

    private void wildCall() {
        switch (upTo(9)) {
            case 0: field(); break;
            case 1: state(); break;
            case 2: choice(); break;
            case 3: otherwise(); break;
            case 4: action(); break;
            case 5: doing(); break;
            case 6: table(); break;
            case 7: step(); break;
            case 8: same("lay()", fast::lay, slow::lay); break;
            default: ask(); break;
        }
    }

    private void end() {
        int[] w = {random.nextInt(), word(), word(), word(), random.nextInt()};
        tell("feed()", () -> fast.feed(w[0], w[1], w[2], w[3], w[4]), () -> slow.feed(w[0], w[1], w[2], w[3], w[4]));
        int n = rarely() ? edge() : upTo(20);
        same("end(" + n + ")", () -> fast.end(n), () -> slow.end(n));
    }

    private void packet() {
        int[] w = new int[5];
        for (int i = 0; i < 5; i++) {
            w[i] = upTo(3) << 24 + upTo(7) | upTo(3) << 16 + upTo(7) | word() & 0xFFFF;
        }
        tell("feed()", () -> fast.feed(w[0], w[1], w[2], w[3], w[4]), () -> slow.feed(w[0], w[1], w[2], w[3], w[4]));
        int n = rarely() ? upTo(3) : 8 + upTo(12);
        same("end(" + n + ")", () -> fast.end(n), () -> slow.end(n));
        same("packet()", fast::packet, slow::packet);
    }

    private void entry() {
        if (random.nextInt(4) > 0) {
            int[] k = {word(), mask(), word(), mask()};
            tell("key()", () -> fast.key(k[0], k[1], k[2], k[3]), () -> slow.key(k[0], k[1], k[2], k[3]));
        }
        int table = one(tables);
        if (random.nextInt(4) == 0) {
            same("remove(" + table + ")", () -> fast.remove(table), () -> slow.remove(table));
            return;
        }
        int priority = word();
        int action = one(actions);
        int first = word();
        int second = word();
        same("insert(" + table + ", " + priority + ", " + action + ", " + first + ", " + second + ")",
            () -> fast.insert(table, priority, action, first, second),
            () -> slow.insert(table, priority, action, first, second));
    }

    private void ask() {
        int operation = rarely() ? edge() : upTo(slow.count(0) + 1);
        told(operation);
        int what = edge();
        same("out of an edge", () -> fast.out(operation, what), () -> slow.out(operation, what));
        same("byteAt an edge", () -> fast.byteAt(operation, what), () -> slow.byteAt(operation, what));
        int array = one(4);
        int i = one(16);
        same("word(" + array + ", " + i + ")", () -> fast.word(array, i), () -> slow.word(array, i));
        int table = one(tables);
        same("entries(" + table + ")", () -> fast.entries(table), () -> slow.entries(table));
    }

    private void told(int operation) {
        for (int i = 0; i < 5; i++) {
            int what = i;
            same("out(" + operation + ", " + i + ")", () -> fast.out(operation, what), () -> slow.out(operation, what));
        }
        int bytes = slow.out(operation, 3);
        for (int i = random.nextInt(2) - 1; i <= bytes; i += 1 + upTo(7)) {
            int at = i;
            same("byteAt(" + operation + ", " + i + ")", () -> fast.byteAt(operation, at), () -> slow.byteAt(operation, at));
        }
        wholePackets += bytes > 0 ? 1 : 0;
        entriesTaken += slow.out(operation, 0) == 1 && slow.out(operation, 1) == 0 ? 1 : 0;
    }

    private void lookAtStages() {
        for (int i = -1; i <= 2; i++) {
            int what = i;
            same("fault(" + i + ")", () -> fast.fault(what), () -> slow.fault(what));
        }
        for (int i = -1; i <= steps; i++) {
            int step = i;
            same("stage(" + i + ")", () -> fast.stage(step), () -> slow.stage(step));
        }
    }

    private void look() {
        for (int i = -1; i <= 6; i++) {
            int what = i;
            same("count(" + i + ")", () -> fast.count(what), () -> slow.count(what));
        }
        lookAtStages();
        for (int i = 0; i < 16; i++) {
            int array = upTo(3);
            int at = i;
            same("word(" + array + ", " + i + ")", () -> fast.word(array, at), () -> slow.word(array, at));
        }
        for (int i = -1; i <= tables; i++) {
            int table = i;
            same("entries(" + i + ")", () -> fast.entries(table), () -> slow.entries(table));
        }
    }
}
