import java.util.Arrays;

/** A pipe that packets run through, a stage each cycle; README.md tells how it is used. */
public final class MatchPipe {
    public static final int NONE = -1;

    private static final int REJECT = -2;

    private static final int FIELDS = 16;
    private static final int STATES = 8;
    private static final int TAKEN = 4;
    private static final int CASES = 4;
    private static final int ACTIONS = 16;
    private static final int DOINGS = 4;
    private static final int TABLES = 8;
    private static final int ENTRIES = 20;
    private static final int STEPS = 16;
    private static final int STAGES = 12;
    private static final int STEPS_IN_STAGE = 3;
    private static final int ARRAYS = 4;
    private static final int ARRAY_WORDS = 16;
    private static final int DATA = 2;

    private static final int READY_BYTES = 20;
    private static final int TAPE_BYTES = 60;
    private static final int IN_LINE = 40;
    private static final int REMEMBERED = 64;
    private static final int MOST_CYCLES = 100;

    private static final int EXACT = 0;
    private static final int PREFIX = 1;
    private static final int MASKED = 2;

    private static final int SET = 0;
    private static final int COPY = 1;
    private static final int GROW = 2;
    private static final int TAKE_DATUM = 3;
    private static final int SET_PORT = 4;
    private static final int PORT_DATUM = 5;
    private static final int DROP = 6;
    private static final int GROW_WORD = 7;
    private static final int TAKE_WORD = 8;

    private static final int EQUAL = 0;
    private static final int NOT_EQUAL = 1;
    private static final int BELOW = 2;
    private static final int NOT_BELOW = 3;

    private static final int PACKET = 0;
    private static final int COMES = 1;
    private static final int GOES = 2;

    private static final int FINE = 0;
    private static final int DROPPED = 1;
    private static final int REFUSED = 1;
    private static final int REJECTED = 2;

    private final Line line = new Line();
    private final Program program = line.program;
    private final Layout layout = line.layout;
    private final Entry latestKey = new Entry();
    private final Bits ready = new Bits();
    private final Bits tape = new Bits();
    private int tapeBytes;

    public MatchPipe() {
    }

    public void clear() {
        program.forget();
        layout.forget();
        line.forget();
        latestKey.setKey(0, 0, 0, 0);
        ready.zero();
        tapeBytes = 0;
    }

    public int field(int width) throws IllegalArgumentException, IllegalStateException {
        if (width < 1 || width > 32) {
            throw new IllegalArgumentException("a width is 1 to 32");
        }
        refuseBeyond(program.fieldCount, FIELDS);
        program.width[program.fieldCount] = width;
        return program.fieldCount++;
    }

    public int state(int a, int b, int c, int d, int on)
            throws IndexOutOfBoundsException, IllegalStateException {
        int taken = beforeNone(a, b, c, d);
        if (taken > 0) {
            requireField(a);
        }
        if (taken > 1) {
            requireField(b);
        }
        if (taken > 2) {
            requireField(c);
        }
        if (taken > 3) {
            requireField(d);
        }
        if (on != NONE) {
            requireField(on);
        }
        refuseBeyond(program.stateCount, STATES);
        State made = program.states[program.stateCount];
        made.begin(taken, on);
        made.taken[0] = a;
        made.taken[1] = b;
        made.taken[2] = c;
        made.taken[3] = d;
        return program.stateCount++;
    }

    public void choice(int state, int value, int mask, int to)
            throws IndexOutOfBoundsException, IllegalStateException {
        requireWay(state, to);
        State chooser = program.states[state];
        refuseBeyond(chooser.caseCount, CASES);
        chooser.addCase(value, mask, to);
    }

    public void otherwise(int state, int to) throws IndexOutOfBoundsException, IllegalStateException {
        requireWay(state, to);
        refuseIfLaid();
        program.states[state].elsewhere = to;
    }

    public int action() throws IllegalStateException {
        refuseBeyond(program.actionCount, ACTIONS);
        program.actions[program.actionCount].doingCount = 0;
        return program.actionCount++;
    }

    public void doing(int action, int kind, int x, int y, int z)
            throws IndexOutOfBoundsException, IllegalArgumentException, IllegalStateException {
        if (kind < SET || kind > TAKE_WORD) {
            throw new IllegalArgumentException("no such kind of doing");
        }
        if (action < 0 || action >= program.actionCount) {
            throw new IndexOutOfBoundsException("no such action");
        }
        if (!program.canDo(kind, x, y, z)) {
            throw new IndexOutOfBoundsException("no such field, array or datum");
        }
        Action done = program.actions[action];
        refuseBeyond(done.doingCount, DOINGS);
        done.addDoing(kind, x, y, z);
    }

    public int table(int f, int g, int how, int actions, int miss)
            throws IndexOutOfBoundsException, IllegalArgumentException, IllegalStateException {
        requireField(f);
        if (g != NONE) {
            requireField(g);
        }
        if (f == g) {
            throw new IndexOutOfBoundsException("both keys are one field");
        }
        if (!program.hasActions(actions) || !hasBit(actions, miss)) {
            throw new IndexOutOfBoundsException("no such actions");
        }
        if (!isHow(how, g != NONE)) {
            throw new IllegalArgumentException("keys can't be matched so");
        }
        refuseBeyond(program.tableCount, TABLES);
        Table made = program.tables[program.tableCount];
        made.setKeys(f, program.ones(f), g, g == NONE ? 0 : program.ones(g), how);
        made.setActions(actions, miss);
        return program.tableCount++;
    }

    public int apply(int table) throws IndexOutOfBoundsException, IllegalStateException {
        requireTable(table);
        refuseBeyond(program.stepCount, STEPS);
        program.steps[program.stepCount].beTable(table);
        return program.stepCount++;
    }

    public int test(int field, int relation, int word, int to)
            throws IndexOutOfBoundsException, IllegalArgumentException, IllegalStateException {
        requireField(field);
        if (relation < EQUAL || relation > NOT_BELOW) {
            throw new IllegalArgumentException("no such relation");
        }
        refuseBeyond(program.stepCount, STEPS);
        program.steps[program.stepCount].beTest(field, relation, word, to);
        return program.stepCount++;
    }

    public int lay() throws IllegalStateException, IllegalArgumentException {
        refuseIfLaid();
        layout.plan(program);
        if (!layout.laid) {
            throw new IllegalArgumentException("it can't be laid");
        }
        return layout.stageCount;
    }

    public int fault(int what) {
        switch (what) {
            case 0:
                return layout.fault;
            case 1:
                return layout.place;
            default:
                return NONE;
        }
    }

    public int stage(int step) {
        if (!layout.laid || step < 0 || step >= program.stepCount) {
            return NONE;
        }
        return layout.stageOf[step];
    }

    public void feed(int a, int b, int c, int d, int e) {
        ready.words[0] = a;
        ready.words[1] = b;
        ready.words[2] = c;
        ready.words[3] = d;
        ready.words[4] = e;
    }

    public int end(int n) {
        if (n < 0 || n > READY_BYTES || tapeBytes + n > TAPE_BYTES) {
            return NONE;
        }
        for (int i = 0; i < n; i++) {
            tape.put(8 * (tapeBytes + i), 8, ready.take(8 * i, 8));
        }
        ready.zero();
        tapeBytes += n;
        return tapeBytes;
    }

    public int packet() throws IllegalStateException {
        requireRoomInLine();
        Operation made = line.nextPlace();
        made.begin(PACKET, NONE);
        made.bits.copy(tape);
        made.bytes = tapeBytes;
        tapeBytes = 0;
        return line.came++;
    }

    public void key(int a, int maskA, int b, int maskB) {
        latestKey.setKey(a, maskA, b, maskB);
    }

    public int insert(int table, int priority, int action, int first, int second)
            throws IndexOutOfBoundsException, IllegalStateException {
        requireTable(table);
        requireRoomInLine();
        Operation made = line.nextPlace();
        made.begin(COMES, table);
        made.entry.copy(latestKey);
        made.entry.setContent(priority, action, first, second);
        return line.came++;
    }

    public int remove(int table) throws IndexOutOfBoundsException, IllegalStateException {
        requireTable(table);
        requireRoomInLine();
        Operation made = line.nextPlace();
        made.begin(GOES, table);
        made.entry.copy(latestKey);
        return line.came++;
    }

    public int run(int n) throws IllegalStateException, IllegalArgumentException {
        requireLaid();
        if (n < 0 || n > MOST_CYCLES) {
            throw new IllegalArgumentException("0 to 100 cycles are run");
        }
        int before = line.gone;
        for (int i = 0; i < n; i++) {
            line.goOn();
        }
        return line.gone - before;
    }

    public int out(int operation, int what) {
        if (!line.remembers(operation)) {
            return NONE;
        }
        Operation gone = line.placeOf(operation);
        switch (what) {
            case 0:
                return gone.kind;
            case 1:
                return gone.outcome;
            case 2:
                return gone.isWhole() ? gone.port : NONE;
            case 3:
                return gone.isWhole() ? gone.bytes : NONE;
            case 4:
                return gone.cycle;
            default:
                return NONE;
        }
    }

    public int byteAt(int operation, int i) {
        if (!line.remembers(operation)) {
            return NONE;
        }
        Operation gone = line.placeOf(operation);
        if (!gone.isWhole() || i < 0 || i >= gone.bytes) {
            return NONE;
        }
        return gone.bits.take(8 * i, 8);
    }

    public int word(int array, int i) throws IllegalStateException {
        refuseIfUnderWay();
        if (array < 0 || array >= ARRAYS || i < 0 || i >= ARRAY_WORDS) {
            return 0;
        }
        return line.arrays[array * ARRAY_WORDS + i];
    }

    public int entries(int table) throws IllegalStateException {
        refuseIfUnderWay();
        return program.hasTable(table) ? program.tables[table].entryCount : NONE;
    }

    public int count(int what) {
        switch (what) {
            case 0:
                return line.came;
            case 1:
                return line.inLine();
            case 2:
                return line.inStages();
            case 3:
                return line.gone;
            case 4:
                return line.cycles;
            case 5:
                return layout.laid ? layout.stageCount : 0;
            default:
                return NONE;
        }
    }

    private void refuseIfLaid() {
        if (layout.laid) {
            throw new IllegalStateException("it is laid");
        }
    }

    private void refuseBeyond(int there, int most) {
        refuseIfLaid();
        if (there >= most) {
            throw new IllegalStateException("there is no room for one more");
        }
    }

    private void requireLaid() {
        if (!layout.laid) {
            throw new IllegalStateException("it is not laid");
        }
    }

    private void requireRoomInLine() {
        requireLaid();
        if (line.inLine() >= IN_LINE) {
            throw new IllegalStateException("40 are in line");
        }
    }

    private void refuseIfUnderWay() {
        if (line.inStages() > 0) {
            throw new IllegalStateException("an operation is in a stage");
        }
    }

    private void requireField(int field) {
        if (!program.hasField(field)) {
            throw new IndexOutOfBoundsException("no such field");
        }
    }

    private void requireTable(int table) {
        if (!program.hasTable(table)) {
            throw new IndexOutOfBoundsException("no such table");
        }
    }

    private void requireWay(int state, int to) {
        if (state < 0 || state >= program.stateCount) {
            throw new IndexOutOfBoundsException("no such state");
        }
        if (to < REJECT || to >= STATES) {
            throw new IndexOutOfBoundsException("that can't come next");
        }
    }

    private static int beforeNone(int a, int b, int c, int d) {
        if (a == NONE) {
            return 0;
        }
        if (b == NONE) {
            return 1;
        }
        if (c == NONE) {
            return 2;
        }
        return d == NONE ? 3 : 4;
    }

    private static boolean isHow(int how, boolean two) {
        int ofF = how & 3;
        int ofG = how >> 2;
        if (ofF > MASKED || ofG < EXACT || ofG > MASKED) {
            return false;
        }
        return two ? ofF != PREFIX || ofG != PREFIX : ofG == 0;
    }

    private static boolean hasBit(int bits, int i) {
        return i >= 0 && i < 32 && ((bits >>> i) & 1) == 1;
    }

    /** Bytes held four to a word, since a word's worth of them costs one element of the room. */
    private static final class Bits {
        final int[] words = new int[TAPE_BYTES / 4];

        void zero() {
            Arrays.fill(words, 0);
        }

        void copy(Bits other) {
            System.arraycopy(other.words, 0, words, 0, words.length);
        }

        int take(int at, int width) {
            if (isOutside(at, width)) {
                return 0;
            }
            return (int) (pairAt(at >> 5) >>> (64 - (at & 31) - width)) & (-1 >>> (32 - width));
        }

        void put(int at, int width, int word) {
            if (isOutside(at, width)) {
                return;
            }
            int i = at >> 5;
            int shift = 64 - (at & 31) - width;
            long ones = (-1L >>> (64 - width)) << shift;
            long pair = (pairAt(i) & ~ones) | (((long) word << shift) & ones);
            words[i] = (int) (pair >>> 32);
            if (i + 1 < words.length) {
                words[i + 1] = (int) pair;
            }
        }

        private boolean isOutside(int at, int width) {
            return width < 1 || width > 32 || at < 0 || at > 32 * words.length - width;
        }

        private long pairAt(int i) {
            long low = i + 1 < words.length ? words[i + 1] & 0xFFFFFFFFL : 0;
            return ((long) words[i] << 32) | low;
        }
    }

    /** A state of the reader. */
    private static final class State {
        final int[] taken = new int[TAKEN];
        final int[] value = new int[CASES];
        final int[] mask = new int[CASES];
        final int[] to = new int[CASES];
        int takenCount;
        int chooser;
        int caseCount;
        int elsewhere;

        void begin(int fields, int on) {
            takenCount = fields;
            chooser = on;
            caseCount = 0;
            elsewhere = NONE;
        }

        void addCase(int caseValue, int caseMask, int caseTo) {
            value[caseCount] = caseValue;
            mask[caseCount] = caseMask;
            to[caseCount] = caseTo;
            caseCount++;
        }

        int next(int word) {
            for (int i = 0; i < caseCount; i++) {
                if (((word ^ value[i]) & mask[i]) == 0) {
                    return to[i];
                }
            }
            return elsewhere;
        }

        boolean tellsOfBeyond(int states) {
            for (int i = 0; i < caseCount; i++) {
                if (to[i] >= states) {
                    return true;
                }
            }
            return elsewhere >= states;
        }

        int waysOn() {
            int ways = elsewhere >= 0 ? 1 << elsewhere : 0;
            if (chooser == NONE) {
                return ways;
            }
            for (int i = 0; i < caseCount; i++) {
                ways |= to[i] >= 0 ? 1 << to[i] : 0;
            }
            return ways;
        }
    }

    /** An action: its doings, and what they read, write and use, as bits. */
    private static final class Action {
        static final int PORT_BIT = 1 << FIELDS;
        static final int DROP_BIT = 2 << FIELDS;

        final int[] kind = new int[DOINGS];
        final int[] x = new int[DOINGS];
        final int[] y = new int[DOINGS];
        final int[] z = new int[DOINGS];
        int doingCount;

        void addDoing(int doingKind, int doingX, int doingY, int doingZ) {
            kind[doingCount] = doingKind;
            x[doingCount] = doingX;
            y[doingCount] = doingY;
            z[doingCount] = doingZ;
            doingCount++;
        }

        int reads() {
            int bits = 0;
            for (int i = 0; i < doingCount; i++) {
                switch (kind[i]) {
                    case GROW:
                        bits |= (1 << x[i]) | (1 << y[i]);
                        break;
                    case COPY:
                    case GROW_WORD:
                    case TAKE_WORD:
                        bits |= 1 << y[i];
                        break;
                    default:
                        break;
                }
            }
            return bits;
        }

        int writes() {
            int bits = 0;
            for (int i = 0; i < doingCount; i++) {
                switch (kind[i]) {
                    case SET_PORT:
                    case PORT_DATUM:
                        bits |= PORT_BIT;
                        break;
                    case DROP:
                        bits |= DROP_BIT;
                        break;
                    case GROW_WORD:
                        break;
                    default:
                        bits |= 1 << x[i];
                        break;
                }
            }
            return bits;
        }

        int usedArrays() {
            int bits = 0;
            for (int i = 0; i < doingCount; i++) {
                if (kind[i] == GROW_WORD) {
                    bits |= 1 << x[i];
                } else if (kind[i] == TAKE_WORD) {
                    bits |= 1 << z[i];
                }
            }
            return bits;
        }
    }

    /** An entry of a table, or what an operation brings to one. */
    private static final class Entry {
        int valueF;
        int maskF;
        int valueG;
        int maskG;
        int priority;
        int action;
        int first;
        int second;

        void setKey(int a, int maskA, int b, int maskB) {
            valueF = a;
            maskF = maskA;
            valueG = b;
            maskG = maskB;
        }

        void setContent(int rank, int done, int datum, int otherDatum) {
            priority = rank;
            action = done;
            first = datum;
            second = otherDatum;
        }

        void copy(Entry other) {
            setKey(other.valueF, other.maskF, other.valueG, other.maskG);
            setContent(other.priority, other.action, other.first, other.second);
        }

        void cutTo(int onesF, int onesG) {
            maskF &= onesF;
            valueF &= maskF;
            maskG &= onesG;
            valueG &= maskG;
        }

        boolean hasKeyOf(Entry other) {
            return valueF == other.valueF && maskF == other.maskF
                && valueG == other.valueG && maskG == other.maskG;
        }

        boolean matches(int f, int g) {
            return (f & maskF) == valueF && (g & maskG) == valueG;
        }
    }

    /** A table, its entries in the order in which they came. */
    private static final class Table {
        final Entry[] rows = new Entry[ENTRIES];
        int entryCount;
        int keyF;
        int onesF;
        int howF;
        int keyG;
        int onesG;
        int howG;
        int actions;
        int miss;

        Table() {
            for (int i = 0; i < ENTRIES; i++) {
                rows[i] = new Entry();
            }
        }

        void setKeys(int f, int allOfF, int g, int allOfG, int how) {
            keyF = f;
            onesF = allOfF;
            howF = how & 3;
            keyG = g;
            onesG = allOfG;
            howG = how >> 2;
            entryCount = 0;
        }

        void setActions(int bits, int without) {
            actions = bits;
            miss = without;
        }

        boolean takesIn(Entry entry) {
            entry.cutTo(onesF, onesG);
            if (!isMask(howF, entry.maskF, onesF) || !isMask(howG, entry.maskG, onesG)) {
                return false;
            }
            if (!hasBit(actions, entry.action) || placeOf(entry) != NONE || entryCount >= ENTRIES) {
                return false;
            }
            rows[entryCount].copy(entry);
            entryCount++;
            return true;
        }

        boolean letsGo(Entry entry) {
            entry.cutTo(onesF, onesG);
            int place = placeOf(entry);
            if (place == NONE) {
                return false;
            }
            Entry freed = rows[place];
            entryCount--;
            for (int i = place; i < entryCount; i++) {
                rows[i] = rows[i + 1];
            }
            rows[entryCount] = freed;
            return true;
        }

        Entry best(int f, int g) {
            Entry best = null;
            for (int i = 0; i < entryCount; i++) {
                if (rows[i].matches(f, g) && (best == null || isBetter(rows[i], best))) {
                    best = rows[i];
                }
            }
            return best;
        }

        private boolean isBetter(Entry one, Entry other) {
            int more = Integer.bitCount(prefixMask(one)) - Integer.bitCount(prefixMask(other));
            return more > 0 || (more == 0 && one.priority > other.priority);
        }

        private int prefixMask(Entry entry) {
            if (howF == PREFIX) {
                return entry.maskF;
            }
            return howG == PREFIX ? entry.maskG : 0;
        }

        private int placeOf(Entry entry) {
            for (int i = 0; i < entryCount; i++) {
                if (rows[i].hasKeyOf(entry)) {
                    return i;
                }
            }
            return NONE;
        }

        private static boolean isMask(int how, int mask, int ones) {
            if (how == EXACT) {
                return mask == ones;
            }
            int rest = ones & ~mask;
            return how == MASKED || (rest & (rest + 1)) == 0;
        }
    }

    /** A step: a table's action, or a test if it has no table. */
    private static final class Step {
        int table;
        int tested;
        int relation;
        int compared;
        int to;

        void beTable(int number) {
            table = number;
        }

        void beTest(int field, int how, int word, int later) {
            table = NONE;
            tested = field;
            relation = how;
            compared = word;
            to = later;
        }

        boolean isTest() {
            return table == NONE;
        }

        boolean isSo(int word) {
            boolean below = (word & 0xFFFFFFFFL) < (compared & 0xFFFFFFFFL);
            switch (relation) {
                case EQUAL:
                    return word == compared;
                case NOT_EQUAL:
                    return word != compared;
                case BELOW:
                    return below;
                default:
                    return !below;
            }
        }
    }

    /** All that is told before it is laid. */
    private static final class Program {
        final int[] width = new int[FIELDS];
        final State[] states = new State[STATES];
        final Action[] actions = new Action[ACTIONS];
        final Table[] tables = new Table[TABLES];
        final Step[] steps = new Step[STEPS];
        int fieldCount;
        int stateCount;
        int actionCount;
        int tableCount;
        int stepCount;

        Program() {
            for (int i = 0; i < STATES; i++) {
                states[i] = new State();
            }
            for (int i = 0; i < ACTIONS; i++) {
                actions[i] = new Action();
            }
            for (int i = 0; i < TABLES; i++) {
                tables[i] = new Table();
            }
            for (int i = 0; i < STEPS; i++) {
                steps[i] = new Step();
            }
        }

        void forget() {
            fieldCount = 0;
            stateCount = 0;
            actionCount = 0;
            tableCount = 0;
            stepCount = 0;
        }

        boolean hasField(int field) {
            return field >= 0 && field < fieldCount;
        }

        boolean hasTable(int table) {
            return table >= 0 && table < tableCount;
        }

        boolean hasActions(int bits) {
            return bits >>> actionCount == 0;
        }

        int ones(int field) {
            return -1 >>> (32 - width[field]);
        }

        boolean canDo(int kind, int x, int y, int z) {
            switch (kind) {
                case SET:
                    return hasField(x);
                case COPY:
                case GROW:
                    return hasField(x) && hasField(y);
                case TAKE_DATUM:
                    return hasField(x) && isDatum(y);
                case PORT_DATUM:
                    return isDatum(y);
                case GROW_WORD:
                    return isArray(x) && hasField(y);
                case TAKE_WORD:
                    return hasField(x) && hasField(y) && isArray(z);
                default:
                    return true;
            }
        }

        int readsOf(Step step) {
            if (step.isTest()) {
                return 1 << step.tested;
            }
            Table table = tables[step.table];
            int bits = (1 << table.keyF) | (table.keyG == NONE ? 0 : 1 << table.keyG);
            for (int i = 0; i < actionCount; i++) {
                bits |= hasBit(table.actions, i) ? actions[i].reads() : 0;
            }
            return bits;
        }

        int writesOf(Step step) {
            int bits = 0;
            for (int i = 0; i < actionCount && !step.isTest(); i++) {
                bits |= hasBit(tables[step.table].actions, i) ? actions[i].writes() : 0;
            }
            return bits;
        }

        int arraysOf(Step step) {
            int bits = 0;
            for (int i = 0; i < actionCount && !step.isTest(); i++) {
                bits |= hasBit(tables[step.table].actions, i) ? actions[i].usedArrays() : 0;
            }
            return bits;
        }

        private static boolean isDatum(int i) {
            return i >= 0 && i < DATA;
        }

        private static boolean isArray(int i) {
            return i >= 0 && i < ARRAYS;
        }
    }

    /** Which stage each step comes to, or why that can't be told. */
    private static final class Layout {
        static final int FAULTS = 6;

        final int[] stageOf = new int[STEPS];
        final int[] firstStep = new int[STAGES + 1];
        final int[] tableStage = new int[TABLES];
        boolean laid;
        int stageCount;
        int fault;
        int place = NONE;

        void forget() {
            laid = false;
            fault = 0;
            place = NONE;
        }

        void plan(Program program) {
            forget();
            for (int kind = 1; kind <= FAULTS; kind++) {
                int found = placeOfFault(kind, program);
                if (found != NONE) {
                    fault = kind;
                    place = found;
                    return;
                }
            }
            laid = true;
        }

        private int placeOfFault(int kind, Program program) {
            switch (kind) {
                case 1:
                    return missingState(program);
                case 2:
                    return emptyRound(program);
                case 3:
                    return testWithoutLater(program);
                case 4:
                    return secondApply(program);
                case 5:
                    return sharedArray(program);
                default:
                    return stepBeyondStages(program);
            }
        }

        private static int missingState(Program program) {
            if (program.stateCount == 0) {
                return 0;
            }
            for (int i = 0; i < program.stateCount; i++) {
                if (program.states[i].tellsOfBeyond(program.stateCount)) {
                    return i;
                }
            }
            return NONE;
        }

        private static int emptyRound(Program program) {
            for (int i = 0; i < program.stateCount; i++) {
                if (hasBit(emptyWaysFrom(i, program), i)) {
                    return i;
                }
            }
            return NONE;
        }

        private static int emptyWaysFrom(int start, Program program) {
            int reached = emptyWays(program.states[start]);
            // A way that does not come round has a new state at every step, so as many rounds are enough.
            for (int round = 0; round < program.stateCount; round++) {
                for (int i = 0; i < program.stateCount; i++) {
                    reached |= hasBit(reached, i) ? emptyWays(program.states[i]) : 0;
                }
            }
            return reached;
        }

        private static int emptyWays(State state) {
            return state.takenCount == 0 ? state.waysOn() : 0;
        }

        private static int testWithoutLater(Program program) {
            for (int i = 0; i < program.stepCount; i++) {
                Step step = program.steps[i];
                if (step.isTest() && (step.to <= i || step.to > program.stepCount)) {
                    return i;
                }
            }
            return NONE;
        }

        private static int secondApply(Program program) {
            int seen = 0;
            for (int i = 0; i < program.stepCount; i++) {
                Step step = program.steps[i];
                if (hasBit(seen, step.table)) {
                    return i;
                }
                seen |= step.isTest() ? 0 : 1 << step.table;
            }
            return NONE;
        }

        private static int sharedArray(Program program) {
            int used = 0;
            int shared = 0;
            for (int i = 0; i < program.stepCount; i++) {
                int arrays = program.arraysOf(program.steps[i]);
                shared |= used & arrays;
                used |= arrays;
            }
            for (int i = 0; i < ARRAYS; i++) {
                if (hasBit(shared, i)) {
                    return i;
                }
            }
            return NONE;
        }

        private int stepBeyondStages(Program program) {
            int stage = 0;
            int written = 0;
            Arrays.fill(tableStage, 0);
            for (int i = 0; i < program.stepCount; i++) {
                Step step = program.steps[i];
                int writes = program.writesOf(step);
                boolean clashes = ((program.readsOf(step) | writes) & written) != 0;
                boolean behindTest = i > 0 && program.steps[i - 1].isTest();
                if (clashes || behindTest || i - firstStep[stage] >= STEPS_IN_STAGE) {
                    stage++;
                    written = 0;
                    if (stage >= STAGES) {
                        return i;
                    }
                    firstStep[stage] = i;
                }
                written |= writes;
                stageOf[i] = stage;
                if (!step.isTest()) {
                    tableStage[step.table] = stage;
                }
            }
            stageCount = stage + 1;
            firstStep[stageCount] = program.stepCount;
            return NONE;
        }
    }

    /** What a packet is while it is in the stages: its fields, and where it goes. */
    private static final class Header {
        final int[] words = new int[FIELDS];
        final int[] order = new int[FIELDS];
        int taken;
        int takenBits;
        int readFields;
        int nextStep;
        int port;
        boolean dropped;

        void begin() {
            Arrays.fill(words, 0);
            taken = 0;
            takenBits = 0;
            readFields = 0;
            nextStep = 0;
            port = 0;
            dropped = false;
        }

        boolean reads(Program program, Operation packet) {
            // A state that takes a field comes but once, and fewer than eight without one stand between two such.
            int most = (FIELDS + 1) * STATES;
            int at = 0;
            for (int i = 0; i < most && at >= 0 && at < program.stateCount; i++) {
                State state = program.states[at];
                if (!takesFields(state, program, packet)) {
                    return false;
                }
                at = state.chooser == NONE ? state.elsewhere : state.next(words[state.chooser]);
            }
            return at == NONE;
        }

        private boolean takesFields(State state, Program program, Operation packet) {
            for (int i = 0; i < state.takenCount; i++) {
                int field = state.taken[i];
                int width = program.width[field];
                if (hasBit(readFields, field) || takenBits + width > 8 * packet.bytes) {
                    return false;
                }
                words[field] = packet.bits.take(takenBits, width);
                order[taken] = field;
                taken++;
                takenBits += width;
                readFields |= 1 << field;
            }
            return true;
        }

        /** The fields go back to where they were read, so that the payload can stay where it is. */
        void putBack(Program program, Operation packet) {
            int at = 0;
            for (int i = 0; i < taken; i++) {
                int width = program.width[order[i]];
                packet.bits.put(at, width, words[order[i]]);
                at += width;
            }
        }

        void perform(Action action, Entry entry, Program program, int[] arrays) {
            for (int i = 0; i < action.doingCount; i++) {
                int x = action.x[i];
                int y = action.y[i];
                int z = action.z[i];
                switch (action.kind[i]) {
                    case SET:
                        words[x] = y & program.ones(x);
                        break;
                    case COPY:
                        words[x] = words[y] & program.ones(x);
                        break;
                    case GROW:
                        words[x] = (words[x] + words[y] + z) & program.ones(x);
                        break;
                    case TAKE_DATUM:
                        words[x] = datum(entry, y) & program.ones(x);
                        break;
                    case SET_PORT:
                        port = y;
                        break;
                    case PORT_DATUM:
                        port = datum(entry, y);
                        break;
                    case DROP:
                        dropped = true;
                        break;
                    case GROW_WORD:
                        arrays[wordOf(x, words[y])] += z;
                        break;
                    default:
                        words[x] = arrays[wordOf(z, words[y])] & program.ones(x);
                        break;
                }
            }
        }

        private static int datum(Entry entry, int i) {
            if (entry == null) {
                return 0;
            }
            return i == 0 ? entry.first : entry.second;
        }

        private static int wordOf(int array, int i) {
            return array * ARRAY_WORDS + (i & (ARRAY_WORDS - 1));
        }
    }

    /** A packet, or an entry that comes or goes. */
    private static final class Operation {
        final Entry entry = new Entry();
        final Bits bits = new Bits();
        int bytes;
        int kind;
        int table;
        int outcome;
        int port;
        int cycle;

        void begin(int what, int where) {
            kind = what;
            table = where;
            outcome = FINE;
        }

        boolean isWhole() {
            return kind == PACKET && outcome == FINE;
        }
    }

    /** What is laid, and the operations in line, in its stages and out; all go on in the order of their numbers. */
    private static final class Line {
        /** A power of two, so that a number's place is its lowest bits; 40 + 12 + 64 operations must have room. */
        static final int PLACES = 128;
        /** The same for the packets in twelve stages. */
        static final int HEADERS = 16;

        final Program program = new Program();
        final Layout layout = new Layout();
        final Operation[] places = new Operation[PLACES];
        final Header[] headers = new Header[HEADERS];
        final int[] inStage = new int[STAGES];
        final int[] arrays = new int[ARRAYS * ARRAY_WORDS];
        int came;
        int entered;
        int gone;
        int cycles;

        Line() {
            for (int i = 0; i < PLACES; i++) {
                places[i] = new Operation();
            }
            for (int i = 0; i < HEADERS; i++) {
                headers[i] = new Header();
            }
            Arrays.fill(inStage, NONE);
        }

        void forget() {
            Arrays.fill(inStage, NONE);
            Arrays.fill(arrays, 0);
            came = 0;
            entered = 0;
            gone = 0;
            cycles = 0;
        }

        int inLine() {
            return came - entered;
        }

        int inStages() {
            return entered - gone;
        }

        boolean remembers(int operation) {
            return operation >= 0 && operation < gone && operation >= gone - REMEMBERED;
        }

        Operation placeOf(int operation) {
            return places[operation & (PLACES - 1)];
        }

        Operation nextPlace() {
            return placeOf(came);
        }

        void goOn() {
            int last = layout.stageCount - 1;
            if (inStage[last] != NONE) {
                leave(inStage[last]);
            }
            for (int i = last; i > 0; i--) {
                inStage[i] = inStage[i - 1];
            }
            inStage[0] = inLine() > 0 ? enter() : NONE;
            for (int i = 0; i <= last; i++) {
                if (inStage[i] != NONE) {
                    workIn(i, inStage[i]);
                }
            }
            cycles++;
        }

        private Header headerOf(int operation) {
            return headers[operation & (HEADERS - 1)];
        }

        private int enter() {
            Operation first = placeOf(entered);
            Header header = headerOf(entered);
            if (first.kind == PACKET) {
                header.begin();
                if (!header.reads(program, first)) {
                    first.outcome = REJECTED;
                }
            }
            return entered++;
        }

        private void leave(int operation) {
            Operation leaving = placeOf(operation);
            leaving.cycle = cycles;
            gone++;
            if (!leaving.isWhole()) {
                return;
            }
            Header header = headerOf(operation);
            header.putBack(program, leaving);
            leaving.port = header.port;
            if (header.dropped) {
                leaving.outcome = DROPPED;
            }
        }

        private void workIn(int stage, int operation) {
            Operation worked = placeOf(operation);
            if (worked.kind != PACKET) {
                if (layout.tableStage[worked.table] == stage) {
                    changeTable(worked);
                }
                return;
            }
            if (worked.outcome == REJECTED) {
                return;
            }
            Header header = headerOf(operation);
            for (int i = layout.firstStep[stage]; i < layout.firstStep[stage + 1]; i++) {
                if (i >= header.nextStep) {
                    doStep(program.steps[i], header);
                }
            }
        }

        private void changeTable(Operation change) {
            Table table = program.tables[change.table];
            boolean done = change.kind == COMES ? table.takesIn(change.entry) : table.letsGo(change.entry);
            change.outcome = done ? FINE : REFUSED;
        }

        private void doStep(Step step, Header header) {
            if (!step.isTest()) {
                doTable(program.tables[step.table], header);
            } else if (!step.isSo(header.words[step.tested])) {
                header.nextStep = step.to;
            }
        }

        private void doTable(Table table, Header header) {
            int g = table.keyG == NONE ? 0 : header.words[table.keyG];
            Entry found = table.best(header.words[table.keyF], g);
            int action = found == null ? table.miss : found.action;
            header.perform(program.actions[action], found, program, arrays);
        }
    }
}
