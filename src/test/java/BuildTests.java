/** Promises 1 to 11: a new object, clear, and all that is told before it is laid. */
public final class BuildTests {
    private static final int NONE = MatchPipe.NONE;

    public static void main(String[] args) {
        newObject();
        clear();
        fields();
        states();
        choices();
        choicesAreTaken();
        otherwise();
        actions();
        doings();
        tables();
        applies();
        tests();
        Check.close("BuildTests");
    }

    /** Eight fields of 8 bits, one state that reads field 0, two actions, a table. */
    private static MatchPipe small() {
        MatchPipe x = new MatchPipe();
        for (int i = 0; i < 8; i++) {
            x.field(8);
        }
        x.state(0, NONE, NONE, NONE, NONE);
        x.action();
        x.action();
        x.table(0, NONE, 0, 3, 0);
        return x;
    }

    private static void isEmpty(String when, MatchPipe x) {
        for (int what = 0; what <= 5; what++) {
            int of = what;
            Check.due(when + " count " + what, 0, () -> x.count(of));
        }
        Check.due(when + " fault", 0, () -> x.fault(0));
        Check.due(when + " place", NONE, () -> x.fault(1));
        Check.due(when + " stage", NONE, () -> x.stage(0));
        Check.due(when + " entries", NONE, () -> x.entries(0));
        Check.due(when + " word", 0, () -> x.word(2, 3));
        Check.due(when + " out", NONE, () -> x.out(0, 0));
        Check.due(when + " byteAt", NONE, () -> x.byteAt(0, 0));
        Check.due(when + " packet", Check.STATE, x::packet);
        Check.due(when + " run", Check.STATE, () -> x.run(0));
        Check.due(when + " insert", Check.INDEX, () -> x.insert(0, 0, 0, 0, 0));
        Check.due(when + " state", Check.INDEX, () -> x.state(0, NONE, NONE, NONE, NONE));
        Check.dueVoid(when + " otherwise", Check.INDEX, () -> x.otherwise(0, NONE));
        Check.dueVoid(when + " doing", Check.INDEX, () -> x.doing(0, 6, 0, 0, 0));
        Check.due(when + " apply", Check.INDEX, () -> x.apply(0));
        Check.due(when + " tape", 0, () -> x.end(0));
    }

    private static void newObject() {
        isEmpty("new", new MatchPipe());
    }

    private static void clear() {
        MatchPipe x = small();
        Check.due("a fault first", Check.ARGUMENT, () -> {
            x.otherwise(0, 7);
            return x.lay();
        });
        x.clear();
        isEmpty("cleared after a fault", x);

        MatchPipe y = small();
        y.doing(0, 7, 0, 0, 5);
        y.apply(0);
        y.lay();
        y.key(3, 255, 0, 0);
        y.insert(0, 0, 1, 0, 0);
        for (int i = 0; i < 3; i++) {
            y.feed(0x01020304, 0, 0, 0, 0);
            y.end(4);
            y.packet();
        }
        y.run(3);
        y.feed(-1, -1, -1, -1, -1);
        y.end(7);
        y.feed(-1, -1, -1, -1, -1);
        Check.due("under way", 1, () -> y.count(2));
        y.clear();
        isEmpty("cleared under way", y);

        y.field(8);
        y.state(0, NONE, NONE, NONE, NONE);
        y.action();
        y.table(0, NONE, 2, 1, 0);
        y.lay();
        y.remove(0);
        y.insert(0, 0, 0, 0, 0);
        y.end(1);
        y.packet();
        y.run(4);
        Check.due("no entry is left", 1, () -> y.out(0, 1));
        Check.due("the key is 0 again: masked by none", 0, () -> y.out(1, 1));
        Check.due("one entry", 1, () -> y.entries(0));
        Check.due("the bytes are 0 again", 0, () -> y.byteAt(2, 0));
        Check.due("actions have lost their doings", 0, () -> y.word(0, 0));
        Check.due("cycles begin again", 4, () -> y.count(4));
        Check.due("the first cycle is 0 again", 1, () -> y.out(0, 4));

        MatchPipe z = new MatchPipe();
        z.feed(-1, -1, -1, -1, -1);
        z.clear();
        z.state(NONE, NONE, NONE, NONE, NONE);
        z.lay();
        z.end(1);
        z.packet();
        z.run(2);
        Check.due("what was ready is 0 again", 0, () -> z.byteAt(0, 0));
    }

    private static void fields() {
        MatchPipe x = new MatchPipe();
        int[] bad = {0, -1, 33, Integer.MIN_VALUE, Integer.MAX_VALUE};
        for (int width : bad) {
            Check.due("field " + width, Check.ARGUMENT, () -> x.field(width));
        }
        for (int i = 0; i < 16; i++) {
            int width = 1 + 2 * i;
            Check.due("field " + i, i, () -> x.field(width));
        }
        Check.due("a 17th field", Check.STATE, () -> x.field(32));
        Check.due("a 17th field of no width", Check.ARGUMENT, () -> x.field(33));
        MatchPipe y = small();
        y.lay();
        Check.due("a field when laid", Check.STATE, () -> y.field(8));
        Check.due("a bad field when laid", Check.ARGUMENT, () -> y.field(0));
    }

    private static void states() {
        MatchPipe x = new MatchPipe();
        x.field(8);
        x.field(8);
        Check.due("bad first", Check.INDEX, () -> x.state(2, NONE, NONE, NONE, NONE));
        Check.due("bad below none", Check.INDEX, () -> x.state(-2, NONE, NONE, NONE, NONE));
        Check.due("bad second", Check.INDEX, () -> x.state(0, 2, NONE, NONE, NONE));
        Check.due("bad third", Check.INDEX, () -> x.state(0, 1, 2, NONE, NONE));
        Check.due("bad fourth", Check.INDEX, () -> x.state(0, 1, 0, 16, NONE));
        Check.due("bad chooser", Check.INDEX, () -> x.state(0, 1, NONE, NONE, 2));
        Check.due("bad chooser below none", Check.INDEX, () -> x.state(0, 1, NONE, NONE, -2));
        Check.due("behind NONE nothing counts", 0, () -> x.state(0, NONE, 99, -7, 1));
        Check.due("no field at all", 1, () -> x.state(NONE, 5, 5, 5, NONE));
        Check.due("a field twice", 2, () -> x.state(0, 0, 1, 1, 0));
        for (int i = 3; i < 8; i++) {
            Check.due("state " + i, i, () -> x.state(NONE, NONE, NONE, NONE, NONE));
        }
        Check.due("a 9th state", Check.STATE, () -> x.state(NONE, NONE, NONE, NONE, NONE));
        Check.due("a 9th bad state", Check.INDEX, () -> x.state(9, NONE, NONE, NONE, NONE));
        MatchPipe y = small();
        y.lay();
        Check.due("a state when laid", Check.STATE, () -> y.state(0, NONE, NONE, NONE, NONE));
    }

    private static void choices() {
        MatchPipe x = small();
        Check.dueVoid("no such state", Check.INDEX, () -> x.choice(1, 0, 0, 0));
        Check.dueVoid("no such state below", Check.INDEX, () -> x.choice(-1, 0, 0, 0));
        Check.dueVoid("to below", Check.INDEX, () -> x.choice(0, 0, 0, -3));
        Check.dueVoid("to above", Check.INDEX, () -> x.choice(0, 0, 0, 8));
        Check.dueVoid("REJECT", "nothing", () -> x.choice(0, 0, 0, -2));
        Check.dueVoid("a state that is not there", "nothing", () -> x.choice(0, 0, 0, 7));
        Check.dueVoid("ACCEPT", "nothing", () -> x.choice(0, 0, 0, NONE));
        Check.dueVoid("itself", "nothing", () -> x.choice(0, 0, 0, 0));
        Check.dueVoid("a fifth", Check.STATE, () -> x.choice(0, 0, 0, 0));
        Check.dueVoid("a fifth to nowhere", Check.INDEX, () -> x.choice(0, 0, 0, 8));
        MatchPipe y = small();
        y.lay();
        Check.dueVoid("when laid", Check.STATE, () -> y.choice(0, 0, 0, 0));
        Check.dueVoid("when laid, no such state", Check.INDEX, () -> y.choice(1, 0, 0, 0));
    }

    private static int outcome(MatchPipe x, int firstByte) {
        x.feed(firstByte << 24, 0, 0, 0, 0);
        x.end(1);
        int number = x.packet();
        x.run(2);
        return x.out(number, 1);
    }

    private static void choicesAreTaken() {
        MatchPipe x = new MatchPipe();
        x.field(8);
        x.state(0, NONE, NONE, NONE, 0);
        x.choice(0, 0x5F, 0xF0, NONE);
        x.choice(0, 0x57, 0xFF, -2);
        x.choice(0, 0x107, -1, NONE);
        x.choice(0, 0x08, -1, NONE);
        x.otherwise(0, -2);
        x.lay();
        Check.due("alike where the mask has ones; the first case", 0, () -> outcome(x, 0x57));
        Check.due("otherwise", 2, () -> outcome(x, 0x60));
        Check.due("a value beyond the field is not alike", 2, () -> outcome(x, 0x07));
        Check.due("a mask beyond the field", 0, () -> outcome(x, 0x08));

        MatchPipe y = new MatchPipe();
        y.field(8);
        y.field(8);
        y.state(0, NONE, NONE, NONE, 1);
        y.choice(0, 0, -1, NONE);
        y.otherwise(0, -2);
        y.lay();
        Check.due("chosen by a field that was not read: 0", 0, () -> outcome(y, 77));

        MatchPipe z = new MatchPipe();
        z.field(8);
        z.state(0, NONE, NONE, NONE, NONE);
        z.choice(0, 0, 0, -2);
        z.lay();
        Check.due("cases of one that chooses by none are not taken", 0, () -> outcome(z, 77));
    }

    private static void otherwise() {
        MatchPipe x = small();
        Check.dueVoid("no such state", Check.INDEX, () -> x.otherwise(1, 0));
        Check.dueVoid("no such state below", Check.INDEX, () -> x.otherwise(-1, 0));
        Check.dueVoid("to below", Check.INDEX, () -> x.otherwise(0, -3));
        Check.dueVoid("to above", Check.INDEX, () -> x.otherwise(0, 8));
        for (int to = 7; to >= -2; to--) {
            int next = to;
            Check.dueVoid("to " + to, "nothing", () -> x.otherwise(0, next));
        }
        x.lay();
        Check.due("the latest counts", 2, () -> outcome(x, 1));
        Check.dueVoid("when laid", Check.STATE, () -> x.otherwise(0, 0));
        Check.dueVoid("when laid, to nowhere", Check.INDEX, () -> x.otherwise(0, 8));
        MatchPipe y = small();
        y.lay();
        Check.due("ACCEPT at first", 0, () -> outcome(y, 1));
    }

    private static void actions() {
        MatchPipe x = new MatchPipe();
        for (int i = 0; i < 16; i++) {
            Check.due("action " + i, i, x::action);
        }
        Check.due("a 17th", Check.STATE, x::action);
        MatchPipe y = small();
        y.lay();
        Check.due("when laid", Check.STATE, y::action);
    }

    private static void doings() {
        MatchPipe x = new MatchPipe();
        x.field(8);
        x.field(8);
        x.action();
        int far = 99;
        int[][] bad = {
            {0, 2, 0, 0}, {0, -1, 0, 0}, {1, 2, 0, 0}, {1, 0, 2, 0}, {1, 0, -1, 0}, {2, 2, 0, 0}, {2, 0, 2, 0},
            {3, 2, 0, 0}, {3, 0, 2, 0}, {3, 0, -1, 0}, {5, 0, 2, 0}, {5, 0, -1, 0}, {7, 4, 0, 0}, {7, -1, 0, 0},
            {7, 0, 2, 0}, {7, 0, -1, 0}, {8, 2, 0, 0}, {8, 0, 2, 0}, {8, 0, 0, 4}, {8, 0, 0, -1},
        };
        for (int[] d : bad) {
            Check.dueVoid("bad doing " + d[0] + " " + d[1] + " " + d[2] + " " + d[3], Check.INDEX,
                () -> x.doing(0, d[0], d[1], d[2], d[3]));
        }
        int[][] good = {
            {0, 1, far, far}, {1, 1, 1, far}, {2, 1, 1, far}, {3, 1, 1, far}, {4, far, far, far}, {5, far, 1, far},
            {6, far, far, far}, {7, 3, 1, far}, {8, 1, 1, 3},
        };
        for (int i = 0; i < good.length; i++) {
            int[] d = good[i];
            int action = i + 1;
            x.action();
            Check.dueVoid("good doing " + d[0], "nothing", () -> x.doing(action, d[0], d[1], d[2], d[3]));
        }
        Check.dueVoid("no such action", Check.INDEX, () -> x.doing(10, 6, 0, 0, 0));
        Check.dueVoid("no such action below", Check.INDEX, () -> x.doing(-1, 6, 0, 0, 0));
        Check.dueVoid("no such kind", Check.ARGUMENT, () -> x.doing(0, 9, 0, 0, 0));
        Check.dueVoid("no such kind below", Check.ARGUMENT, () -> x.doing(0, -1, 0, 0, 0));
        Check.dueVoid("the kind first", Check.ARGUMENT, () -> x.doing(99, 9, 99, 99, 99));
        for (int i = 0; i < 4; i++) {
            Check.dueVoid("doing " + i, "nothing", () -> x.doing(0, 6, 0, 0, 0));
        }
        Check.dueVoid("a fifth", Check.STATE, () -> x.doing(0, 6, 0, 0, 0));
        Check.dueVoid("a fifth bad one", Check.INDEX, () -> x.doing(0, 0, 9, 0, 0));
        MatchPipe y = small();
        y.lay();
        Check.dueVoid("when laid", Check.STATE, () -> y.doing(0, 6, 0, 0, 0));
        Check.dueVoid("when laid, no such action", Check.INDEX, () -> y.doing(2, 6, 0, 0, 0));
        Check.dueVoid("when laid, no such kind", Check.ARGUMENT, () -> y.doing(0, 9, 0, 0, 0));
    }

    private static void tables() {
        MatchPipe x = new MatchPipe();
        x.field(8);
        x.field(8);
        x.action();
        x.action();
        int[][] noIndex = {
            {2, NONE, 0, 1, 0}, {NONE, 0, 0, 1, 0}, {NONE, NONE, 0, 1, 0}, {-2, NONE, 0, 1, 0}, {0, 2, 0, 1, 0},
            {0, -2, 0, 1, 0}, {0, 0, 0, 1, 0}, {0, 1, 0, 4, 2}, {0, 1, 0, 5, 0}, {0, 1, 0, 1, 1}, {0, 1, 0, 0, 0},
            {0, 1, 0, 3, 2}, {0, 1, 0, 3, -1}, {0, 1, 0, 3, 32}, {0, 1, 0, -1, 0}, {0, 1, 0, 1 << 31, 31},
            {0, 0, 5, 1, 0}, {2, NONE, 99, 1, 0},
        };
        for (int[] t : noIndex) {
            Check.due("table " + java.util.Arrays.toString(t), Check.INDEX,
                () -> x.table(t[0], t[1], t[2], t[3], t[4]));
        }
        int[] badHow = {3, 7, 11, 12, 15, -1, -4, 16, Integer.MIN_VALUE, 5, 1 << 30};
        for (int how : badHow) {
            Check.due("two keys, how " + how, Check.ARGUMENT, () -> x.table(0, 1, how, 3, 0));
        }
        int[] badHowOfOne = {3, 4, 5, 6, 8, 9, 10, -1, -4};
        for (int how : badHowOfOne) {
            Check.due("one key, how " + how, Check.ARGUMENT, () -> x.table(0, NONE, how, 3, 0));
        }
        int[] two = {0, 1, 2, 4, 6, 8, 9, 10};
        for (int i = 0; i < 8; i++) {
            int how = two[i];
            Check.due("two keys, how " + how, i, () -> x.table(0, 1, how, 3, 1));
        }
        Check.due("a 9th", Check.STATE, () -> x.table(0, 1, 0, 3, 0));
        Check.due("a 9th, bad", Check.INDEX, () -> x.table(2, 1, 0, 3, 0));
        Check.due("a 9th, bad how", Check.ARGUMENT, () -> x.table(0, 1, 3, 3, 0));
        MatchPipe y = small();
        for (int how = 0; how < 3; how++) {
            int of = how;
            Check.due("one key, how " + how, 1 + how, () -> y.table(0, NONE, of, 2, 1));
        }
        y.lay();
        Check.due("when laid", Check.STATE, () -> y.table(0, NONE, 0, 1, 0));
        Check.due("when laid, bad how", Check.ARGUMENT, () -> y.table(0, NONE, 4, 1, 0));
    }

    private static void applies() {
        MatchPipe x = small();
        Check.due("no such table", Check.INDEX, () -> x.apply(1));
        Check.due("no such table below", Check.INDEX, () -> x.apply(-1));
        for (int i = 0; i < 16; i++) {
            Check.due("step " + i, i, () -> x.apply(0));
        }
        Check.due("a 17th", Check.STATE, () -> x.apply(0));
        Check.due("a 17th, no table", Check.INDEX, () -> x.apply(1));
        MatchPipe y = small();
        y.lay();
        Check.due("when laid", Check.STATE, () -> y.apply(0));
    }

    private static void tests() {
        MatchPipe x = small();
        Check.due("no such field", Check.INDEX, () -> x.test(8, 0, 0, 1));
        Check.due("no such field below", Check.INDEX, () -> x.test(-1, 9, 0, 1));
        Check.due("no such relation", Check.ARGUMENT, () -> x.test(0, 4, 0, 1));
        Check.due("no such relation below", Check.ARGUMENT, () -> x.test(0, -1, 0, 1));
        for (int i = 0; i < 16; i++) {
            int relation = i & 3;
            Check.due("step " + i, i, () -> x.test(7, relation, -1, -99));
        }
        Check.due("a 17th", Check.STATE, () -> x.test(0, 0, 0, 1));
        Check.due("a 17th, no relation", Check.ARGUMENT, () -> x.test(0, 4, 0, 1));
        MatchPipe y = small();
        y.lay();
        Check.due("when laid", Check.STATE, () -> y.test(0, 0, 0, 1));
    }
}
