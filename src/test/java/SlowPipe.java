import java.util.ArrayDeque;
import java.util.ArrayList;
import java.util.Arrays;
import java.util.Deque;
import java.util.HashSet;
import java.util.List;
import java.util.Set;
import java.util.TreeSet;

/**
 * The document once more, written for being read: each operation does all its work at once when it
 * comes in, since no stage shares a table or an array with another, and waits for its cycle then.
 */
final class SlowPipe {
    private static final long WORD = 0xFFFFFFFFL;

    private static final class State {
        List<Integer> fields = new ArrayList<>();
        int on;
        List<int[]> cases = new ArrayList<>();
        int otherwise = -1;
    }

    private static final class Entry {
        List<Long> values = new ArrayList<>();
        List<Long> masks = new ArrayList<>();
        int priority;
        int action;
        int[] data;
    }

    private static final class Table {
        List<Integer> keys = new ArrayList<>();
        List<Integer> how = new ArrayList<>();
        Set<Integer> actions = new TreeSet<>();
        int miss;
        List<Entry> entries = new ArrayList<>();
    }

    private static final class Operation {
        int kind;
        int table;
        int[] key;
        int[] content;
        String bits;
        int outcome;
        int port;
        int outAt;
    }

    private List<Integer> widths;
    private List<State> states;
    private List<List<int[]>> actions;
    private List<Table> tables;
    private List<int[]> steps;
    private List<Integer> stages;
    private boolean laid;
    private int fault;
    private int place;
    private String ready;
    private String tape;
    private int[] key;
    private int[][] arrays;
    private List<Operation> all;
    private Deque<Operation> line;
    private Deque<Operation> inside;
    private List<Operation> gone;
    private int cycles;

    SlowPipe() {
        clear();
    }

    void clear() {
        widths = new ArrayList<>();
        states = new ArrayList<>();
        actions = new ArrayList<>();
        tables = new ArrayList<>();
        steps = new ArrayList<>();
        stages = new ArrayList<>();
        laid = false;
        fault = 0;
        place = -1;
        ready = "0".repeat(160);
        tape = "";
        key = new int[4];
        arrays = new int[4][16];
        all = new ArrayList<>();
        line = new ArrayDeque<>();
        inside = new ArrayDeque<>();
        gone = new ArrayList<>();
        cycles = 0;
    }

    private static void index(boolean good) {
        if (!good) {
            throw new IndexOutOfBoundsException();
        }
    }

    private static void argument(boolean good) {
        if (!good) {
            throw new IllegalArgumentException();
        }
    }

    private static void state(boolean good) {
        if (!good) {
            throw new IllegalStateException();
        }
    }

    private static boolean in(int i, List<?> list) {
        return 0 <= i && i < list.size();
    }

    private static <T> int put(List<T> list, T one, int most, boolean laid) {
        state(!laid && list.size() < most);
        list.add(one);
        return list.size() - 1;
    }

    int field(int width) {
        argument(1 <= width && width <= 32);
        return put(widths, width, 16, laid);
    }

    int state(int a, int b, int c, int d, int on) {
        State made = new State();
        for (int f : new int[] {a, b, c, d}) {
            if (f == -1) {
                break;
            }
            index(in(f, widths));
            made.fields.add(f);
        }
        index(on == -1 || in(on, widths));
        made.on = on;
        return put(states, made, 8, laid);
    }

    void choice(int state, int value, int mask, int to) {
        index(in(state, states) && -2 <= to && to <= 7);
        put(states.get(state).cases, new int[] {value, mask, to}, 4, laid);
    }

    void otherwise(int state, int to) {
        index(in(state, states) && -2 <= to && to <= 7);
        state(!laid);
        states.get(state).otherwise = to;
    }

    int action() {
        return put(actions, new ArrayList<>(), 16, laid);
    }

    void doing(int action, int kind, int x, int y, int z) {
        argument(0 <= kind && kind <= 8);
        index(in(action, actions));
        index("01238".indexOf('0' + kind) < 0 || in(x, widths));
        index("1278".indexOf('0' + kind) < 0 || in(y, widths));
        index("35".indexOf('0' + kind) < 0 || y == 0 || y == 1);
        index(kind != 7 || 0 <= x && x < 4);
        index(kind != 8 || 0 <= z && z < 4);
        put(actions.get(action), new int[] {kind, x, y, z}, 4, laid);
    }

    int table(int f, int g, int how, int bits, int miss) {
        index(in(f, widths) && (g == -1 || in(g, widths)) && f != g);
        Table made = new Table();
        for (int i = 0; i < 32; i++) {
            if ((bits >> i & 1) != 0) {
                index(in(i, actions));
                made.actions.add(i);
            }
        }
        index(made.actions.contains(miss));
        argument(how >= 0 && how % 4 < 3 && how / 4 < (g == -1 ? 1 : 3) && how != 5);
        made.keys.add(f);
        made.how.add(how % 4);
        if (g != -1) {
            made.keys.add(g);
            made.how.add(how / 4);
        }
        made.miss = miss;
        return put(tables, made, 8, laid);
    }

    int apply(int table) {
        index(in(table, tables));
        return put(steps, new int[] {table}, 16, laid);
    }

    int test(int field, int relation, int word, int to) {
        index(in(field, widths));
        argument(0 <= relation && relation <= 3);
        return put(steps, new int[] {field, relation, word, to}, 16, laid);
    }

    private static boolean isTest(int[] step) {
        return step.length == 4;
    }

    int lay() {
        state(!laid);
        fault = 0;
        place = -1;
        findFault();
        argument(fault == 0);
        laid = true;
        return count(5);
    }

    private boolean faultAt(int what, int where) {
        fault = what;
        place = where;
        return true;
    }

    private boolean findFault() {
        if (states.isEmpty()) {
            return faultAt(1, 0);
        }
        for (State s : states) {
            boolean missing = s.otherwise >= states.size();
            for (int[] c : s.cases) {
                missing |= c[2] >= states.size();
            }
            if (missing) {
                return faultAt(1, states.indexOf(s));
            }
        }
        for (int i = 0; i < states.size(); i++) {
            if (comesTo(i, i, 9)) {
                return faultAt(2, i);
            }
        }
        for (int i = 0; i < steps.size(); i++) {
            int[] s = steps.get(i);
            if (isTest(s) && !(i < s[3] && s[3] <= steps.size())) {
                return faultAt(3, i);
            }
        }
        for (int i = 0; i < steps.size(); i++) {
            for (int j = 0; j < i; j++) {
                if (!isTest(steps.get(i)) && Arrays.equals(steps.get(i), steps.get(j))) {
                    return faultAt(4, i);
                }
            }
        }
        for (int array = 0; array < 4; array++) {
            int users = 0;
            for (int[] s : steps) {
                users += uses(s, array) ? 1 : 0;
            }
            if (users > 1) {
                return faultAt(5, array);
            }
        }
        return layStages();
    }

    private boolean comesTo(int from, int to, int depth) {
        State s = states.get(from);
        if (depth == 0 || !s.fields.isEmpty()) {
            return false;
        }
        Set<Integer> next = new HashSet<>();
        next.add(s.otherwise);
        for (int[] c : s.cases) {
            if (s.on != -1) {
                next.add(c[2]);
            }
        }
        for (int n : next) {
            if (n >= 0 && (n == to || comesTo(n, to, depth - 1))) {
                return true;
            }
        }
        return false;
    }

    private List<int[]> doingsOf(int[] step) {
        List<int[]> found = new ArrayList<>();
        if (!isTest(step)) {
            for (int a : tables.get(step[0]).actions) {
                found.addAll(actions.get(a));
            }
        }
        return found;
    }

    private boolean uses(int[] step, int array) {
        for (int[] d : doingsOf(step)) {
            if (d[0] == 7 && d[1] == array || d[0] == 8 && d[3] == array) {
                return true;
            }
        }
        return false;
    }

    private Set<String> reads(int[] step) {
        Set<String> found = new HashSet<>();
        if (isTest(step)) {
            found.add("f" + step[0]);
            return found;
        }
        for (int k : tables.get(step[0]).keys) {
            found.add("f" + k);
        }
        for (int[] d : doingsOf(step)) {
            if (d[0] == 1 || d[0] == 2 || d[0] == 7 || d[0] == 8) {
                found.add("f" + d[2]);
            }
            if (d[0] == 2) {
                found.add("f" + d[1]);
            }
        }
        return found;
    }

    private Set<String> writes(int[] step) {
        Set<String> found = new HashSet<>();
        for (int[] d : doingsOf(step)) {
            if (d[0] <= 3 || d[0] == 8) {
                found.add("f" + d[1]);
            } else if (d[0] != 7) {
                found.add(d[0] == 6 ? "drop" : "port");
            }
        }
        return found;
    }

    private boolean layStages() {
        stages = new ArrayList<>();
        for (int i = 0; i < steps.size(); i++) {
            int stage = i == 0 ? 0 : stages.get(i - 1);
            stages.add(fits(i, stage) ? stage : stage + 1);
            if (stages.get(i) == 12) {
                return faultAt(6, i);
            }
        }
        return false;
    }

    private boolean fits(int step, int stage) {
        Set<String> touched = reads(steps.get(step));
        touched.addAll(writes(steps.get(step)));
        int there = 0;
        for (int i = 0; i < step; i++) {
            if (stages.get(i) != stage) {
                continue;
            }
            there++;
            if (isTest(steps.get(i))) {
                return false;
            }
            for (String w : writes(steps.get(i))) {
                if (touched.contains(w)) {
                    return false;
                }
            }
        }
        return there < 3;
    }

    int fault(int what) {
        return what == 0 ? fault : what == 1 ? place : -1;
    }

    int stage(int step) {
        return laid && in(step, steps) ? stages.get(step) : -1;
    }

    void feed(int a, int b, int c, int d, int e) {
        ready = "";
        for (int w : new int[] {a, b, c, d, e}) {
            ready += bits(w & WORD, 32);
        }
    }

    private static String bits(long word, int width) {
        String text = "0".repeat(32) + Long.toBinaryString(word);
        return text.substring(text.length() - width);
    }

    int end(int n) {
        if (n < 0 || n > 20 || tape.length() / 8 + n > 60) {
            return -1;
        }
        tape += ready.substring(0, 8 * n);
        ready = "0".repeat(160);
        return tape.length() / 8;
    }

    private int join(Operation o, int kind) {
        state(laid && line.size() < 40);
        o.kind = kind;
        line.add(o);
        all.add(o);
        return all.size() - 1;
    }

    int packet() {
        Operation o = new Operation();
        o.bits = tape;
        int number = join(o, 0);
        tape = "";
        return number;
    }

    void key(int a, int maskA, int b, int maskB) {
        key = new int[] {a, maskA, b, maskB};
    }

    int insert(int table, int priority, int action, int first, int second) {
        index(in(table, tables));
        Operation o = new Operation();
        o.table = table;
        o.key = key;
        o.content = new int[] {priority, action, first, second};
        return join(o, 1);
    }

    int remove(int table) {
        index(in(table, tables));
        Operation o = new Operation();
        o.table = table;
        o.key = key;
        return join(o, 2);
    }

    int run(int n) {
        state(laid);
        argument(0 <= n && n <= 100);
        int before = gone.size();
        for (int i = 0; i < n; i++) {
            if (!inside.isEmpty() && inside.peek().outAt == cycles) {
                gone.add(inside.remove());
            }
            if (!line.isEmpty()) {
                Operation o = line.remove();
                o.outAt = cycles + count(5);
                work(o);
                inside.add(o);
            }
            cycles++;
        }
        return gone.size() - before;
    }

    private void work(Operation o) {
        if (o.kind == 0) {
            workPacket(o);
            return;
        }
        Table t = tables.get(o.table);
        Entry made = new Entry();
        boolean good = true;
        for (int i = 0; i < t.keys.size(); i++) {
            int width = widths.get(t.keys.get(i));
            String mask = bits(o.key[2 * i + 1] & WORD, width);
            String value = bits(o.key[2 * i] & WORD, width);
            made.masks.add(Long.parseLong(mask, 2));
            made.values.add(Long.parseLong(value, 2) & Long.parseLong(mask, 2));
            good &= mask.matches(t.how.get(i) == 0 ? "1*" : t.how.get(i) == 1 ? "1*0*" : "[01]*");
        }
        Entry same = null;
        for (Entry e : t.entries) {
            if (e.values.equals(made.values) && e.masks.equals(made.masks)) {
                same = e;
            }
        }
        if (o.kind == 2) {
            o.outcome = t.entries.remove(same) ? 0 : 1;
            return;
        }
        made.priority = o.content[0];
        made.action = o.content[1];
        made.data = new int[] {o.content[2], o.content[3]};
        good &= t.actions.contains(made.action) && same == null && t.entries.size() < 20;
        o.outcome = good ? 0 : 1;
        if (good) {
            t.entries.add(made);
        }
    }

    private void workPacket(Operation o) {
        long[] words = new long[widths.size()];
        List<Integer> order = new ArrayList<>();
        int at = 0;
        int used = 0;
        while (at >= 0) {
            State s = states.get(at);
            for (int f : s.fields) {
                if (order.contains(f) || used + widths.get(f) > o.bits.length()) {
                    o.outcome = 2;
                    return;
                }
                order.add(f);
                words[f] = Long.parseLong(o.bits.substring(used, used + widths.get(f)), 2);
                used += widths.get(f);
            }
            at = s.otherwise;
            for (int i = s.cases.size() - 1; i >= 0 && s.on != -1; i--) {
                int[] c = s.cases.get(i);
                at = (words[s.on] & c[1] & WORD) == (c[0] & c[1] & WORD) ? c[2] : at;
            }
        }
        if (at == -2) {
            o.outcome = 2;
            return;
        }
        for (int step = 0; step < steps.size();) {
            int[] s = steps.get(step);
            step = isTest(s) && !isSo(words[s[0]], s[1], s[2] & WORD) ? s[3] : step + 1;
            if (!isTest(s)) {
                doTable(tables.get(s[0]), words, o);
            }
        }
        StringBuilder text = new StringBuilder();
        for (int f : order) {
            text.append(bits(words[f], widths.get(f)));
        }
        o.bits = text + o.bits.substring(used);
    }

    private static boolean isSo(long field, int relation, long word) {
        return relation == 0 ? field == word : relation == 1 ? field != word
            : relation == 2 ? field < word : field >= word;
    }

    private void doTable(Table t, long[] words, Operation o) {
        List<Entry> found = new ArrayList<>();
        for (Entry e : t.entries) {
            boolean all = true;
            for (int i = 0; i < t.keys.size(); i++) {
                all &= (words[t.keys.get(i)] & e.masks.get(i)) == e.values.get(i);
            }
            if (all) {
                found.add(e);
            }
        }
        int prefix = t.how.indexOf(1);
        found.sort((a, b) -> {
            int ones = prefix < 0 ? 0
                : Long.bitCount(b.masks.get(prefix)) - Long.bitCount(a.masks.get(prefix));
            return ones != 0 ? ones : Integer.compare(b.priority, a.priority);
        });
        int action = found.isEmpty() ? t.miss : found.get(0).action;
        int[] data = found.isEmpty() ? new int[2] : found.get(0).data;
        for (int[] d : actions.get(action)) {
            doOne(d, data, words, o);
        }
    }

    private void doOne(int[] d, int[] data, long[] words, Operation o) {
        int x = d[1];
        int y = d[2];
        int z = d[3];
        long set = -1;
        switch (d[0]) {
            case 0: set = y & WORD; break;
            case 1: set = words[y]; break;
            case 2: set = words[x] + words[y] + z & WORD; break;
            case 3: set = data[y] & WORD; break;
            case 4: o.port = y; break;
            case 5: o.port = data[y]; break;
            case 6: o.outcome = 1; break;
            case 7: arrays[x][(int) (words[y] % 16)] += z; break;
            default: set = arrays[z][(int) (words[y] % 16)] & WORD; break;
        }
        if (set >= 0) {
            words[x] = set % (1L << widths.get(x));
        }
    }

    private Operation latest(int operation) {
        boolean known = in(operation, gone) && operation >= gone.size() - 64;
        return known ? gone.get(operation) : null;
    }

    int out(int operation, int what) {
        Operation o = latest(operation);
        if (o == null) {
            return -1;
        }
        boolean whole = o.kind == 0 && o.outcome == 0;
        switch (what) {
            case 0: return o.kind;
            case 1: return o.outcome;
            case 2: return whole ? o.port : -1;
            case 3: return whole ? o.bits.length() / 8 : -1;
            case 4: return o.outAt;
            default: return -1;
        }
    }

    int byteAt(int operation, int i) {
        if (i < 0 || i >= out(operation, 3)) {
            return -1;
        }
        return Integer.parseInt(latest(operation).bits.substring(8 * i, 8 * i + 8), 2);
    }

    int word(int array, int i) {
        state(inside.isEmpty());
        return 0 <= array && array < 4 && 0 <= i && i < 16 ? arrays[array][i] : 0;
    }

    int entries(int table) {
        state(inside.isEmpty());
        return in(table, tables) ? tables.get(table).entries.size() : -1;
    }

    int count(int what) {
        switch (what) {
            case 0: return all.size();
            case 1: return line.size();
            case 2: return inside.size();
            case 3: return gone.size();
            case 4: return cycles;
            case 5: return !laid ? 0 : stages.isEmpty() ? 1 : stages.get(stages.size() - 1) + 1;
            default: return -1;
        }
    }
}
