/** Promises 12 to 14: stages, and the faults of laying. */
public final class LayTests {
    private static final int NONE = MatchPipe.NONE;

    public static void main(String[] args) {
        nothingToLay();
        missingStates();
        emptyRounds();
        testsThatGoNowhere();
        tablesTwice();
        sharedArrays();
        stagesByWrites();
        stagesByPortAndDrop();
        threeInAStage();
        behindTests();
        thirteenStages();
        theFirstFault();
        Check.close("LayTests");
    }

    private static MatchPipe withFields(int n) {
        MatchPipe x = new MatchPipe();
        for (int i = 0; i < n; i++) {
            x.field(8);
        }
        return x;
    }

    private static MatchPipe ready(int n) {
        MatchPipe x = withFields(n);
        x.state(NONE, NONE, NONE, NONE, NONE);
        return x;
    }

    /** A step that does a table of its own, by key f, with one action of one doing. */
    private static int step(MatchPipe x, int f, int kind, int a, int b, int c) {
        int action = x.action();
        x.doing(action, kind, a, b, c);
        return x.apply(x.table(f, NONE, 0, 1 << action, action));
    }

    private static void faultIs(String what, MatchPipe x, int fault, int place) {
        Check.due(what + ": lay", Check.ARGUMENT, x::lay);
        Check.due(what + ": fault", fault, () -> x.fault(0));
        Check.due(what + ": place", place, () -> x.fault(1));
        Check.due(what + ": no stages", 0, () -> x.count(5));
        Check.due(what + ": no stage", NONE, () -> x.stage(0));
        Check.due(what + ": not laid", Check.STATE, x::packet);
    }

    private static void stagesAre(String what, MatchPipe x, int... stages) {
        int last = stages.length == 0 ? 0 : stages[stages.length - 1];
        Check.due(what + ": not laid yet", NONE, () -> x.stage(0));
        Check.due(what + ": lay", last + 1, x::lay);
        Check.due(what + ": fault", 0, () -> x.fault(0));
        Check.due(what + ": place", NONE, () -> x.fault(1));
        Check.due(what + ": count", last + 1, () -> x.count(5));
        for (int i = 0; i < stages.length; i++) {
            int step = i;
            Check.due(what + ": stage of " + i, stages[i], () -> x.stage(step));
        }
        Check.due(what + ": no such step", NONE, () -> x.stage(stages.length));
        Check.due(what + ": no step below 0", NONE, () -> x.stage(-1));
        Check.due(what + ": laid", Check.STATE, x::lay);
        Check.due(what + ": still no fault", 0, () -> x.fault(0));
    }

    private static void nothingToLay() {
        MatchPipe x = new MatchPipe();
        Check.due("fault before lay", 0, () -> x.fault(0));
        Check.due("place before lay", NONE, () -> x.fault(1));
        faultIs("no state", x, 1, 0);
        Check.due("fault 2", NONE, () -> x.fault(2));
        Check.due("fault -1", NONE, () -> x.fault(-1));
        x.state(NONE, NONE, NONE, NONE, NONE);
        stagesAre("no step", x);
    }

    private static void missingStates() {
        MatchPipe x = withFields(1);
        x.state(NONE, NONE, NONE, NONE, 0);
        x.state(NONE, NONE, NONE, NONE, 0);
        x.state(NONE, NONE, NONE, NONE, NONE);
        x.otherwise(2, 3);
        faultIs("otherwise", x, 1, 2);
        x.choice(1, 0, 0, 7);
        faultIs("a case", x, 1, 1);
        MatchPipe y = withFields(1);
        y.state(NONE, NONE, NONE, NONE, NONE);
        y.choice(0, 0, 0, 1);
        faultIs("a case that does not choose", y, 1, 0);
        y.state(NONE, NONE, NONE, NONE, NONE);
        stagesAre("now it is there", y);
    }

    private static void emptyRounds() {
        MatchPipe x = withFields(1);
        x.state(NONE, NONE, NONE, NONE, 0);
        x.state(NONE, NONE, NONE, NONE, 0);
        x.state(NONE, NONE, NONE, NONE, NONE);
        x.state(0, NONE, NONE, NONE, NONE);
        x.otherwise(3, 0);
        x.otherwise(0, 1);
        x.choice(1, 3, -1, 2);
        x.otherwise(2, 1);
        faultIs("1 to 2 to 1; 0 only comes there", x, 2, 1);
        x.otherwise(2, 3);
        stagesAre("a field on the way round", x);

        MatchPipe y = withFields(1);
        y.state(0, NONE, NONE, NONE, NONE);
        y.state(NONE, NONE, NONE, NONE, NONE);
        y.choice(1, 0, 0, 1);
        y.otherwise(0, 0);
        stagesAre("cases that don't count, and a field round itself", y);

        MatchPipe z = withFields(1);
        for (int i = 0; i < 8; i++) {
            z.state(NONE, NONE, NONE, NONE, 0);
        }
        for (int i = 1; i < 8; i++) {
            z.choice(i, i, -1, i - 1);
        }
        z.choice(0, 0, 0, 7);
        faultIs("all eight", z, 2, 0);

        MatchPipe w = withFields(1);
        w.state(NONE, NONE, NONE, NONE, NONE);
        w.state(NONE, NONE, NONE, NONE, NONE);
        w.otherwise(1, 1);
        faultIs("one that reading never comes to", w, 2, 1);
    }

    private static void testsThatGoNowhere() {
        int[] bad = {0, 1, -1, 4, 16, Integer.MAX_VALUE, Integer.MIN_VALUE};
        for (int to : bad) {
            MatchPipe x = ready(1);
            x.test(0, 0, 0, 3);
            x.test(0, 0, 0, to);
            x.test(0, 0, 0, 99);
            faultIs("to " + to, x, 3, 1);
        }
        MatchPipe y = ready(1);
        y.test(0, 0, 0, 3);
        y.test(0, 0, 0, 2);
        y.test(0, 0, 0, 3);
        stagesAre("to the end", y, 0, 1, 2);
    }

    private static void tablesTwice() {
        MatchPipe x = ready(1);
        x.action();
        x.table(0, NONE, 0, 1, 0);
        x.table(0, NONE, 0, 1, 0);
        x.apply(0);
        x.apply(1);
        x.test(0, 0, 0, 4);
        x.apply(1);
        x.apply(0);
        faultIs("table 1 comes twice first", x, 4, 3);
    }

    private static void sharedArrays() {
        MatchPipe x = ready(2);
        step(x, 0, 7, 3, 1, 1);
        step(x, 0, 7, 2, 1, 1);
        step(x, 0, 8, 1, 0, 3);
        faultIs("array 3, by 7 and by 8", x, 5, 3);
        step(x, 0, 8, 1, 0, 2);
        faultIs("array 2 is the least", x, 5, 2);

        MatchPipe y = ready(2);
        step(y, 0, 7, 0, 1, 1);
        int action = y.action();
        y.doing(action, 7, 0, 1, 1);
        y.table(0, NONE, 0, 1 << action, action);
        stagesAre("one of the tables has no step", y, 0);

        MatchPipe z = ready(2);
        int both = z.action();
        z.doing(both, 7, 1, 0, 1);
        z.doing(both, 8, 1, 0, 1);
        z.apply(z.table(0, NONE, 0, 1, 0));
        stagesAre("one table twice", z, 0);
    }

    private static void stagesByWrites() {
        int[][] doings = {{0, 2, 1, 0}, {1, 2, 1, 0}, {2, 2, 1, 0}, {3, 2, 1, 0}, {8, 2, 1, 0}};
        for (int[] d : doings) {
            MatchPipe x = ready(4);
            step(x, 0, d[0], d[1], d[2], d[3]);
            step(x, 2, 0, 3, 0, 0);
            stagesAre("kind " + d[0] + " writes x, read as a key", x, 0, 1);
            MatchPipe y = ready(4);
            step(y, 0, d[0], d[1], d[2], d[3]);
            step(y, 0, 0, 2, 0, 0);
            stagesAre("kind " + d[0] + " writes x, written again", y, 0, 1);
            MatchPipe z = ready(4);
            step(z, 0, d[0], d[1], d[2], d[3]);
            step(z, 1, 0, 3, 0, 0);
            stagesAre("kind " + d[0] + " does not write y", z, 0, 0);
            MatchPipe w = ready(4);
            step(w, 0, d[0], d[1], d[2], d[3]);
            w.test(2, 0, 0, 2);
            stagesAre("kind " + d[0] + " writes x, read by a TEST", w, 0, 1);
        }
        MatchPipe none = ready(4);
        step(none, 0, 7, 2, 1, 2);
        step(none, 2, 0, 3, 0, 0);
        stagesAre("kind 7 writes no field", none, 0, 0);

        int[][] readers = {{1, 3, 2, 0}, {2, 3, 2, 0}, {7, 1, 2, 0}, {8, 3, 2, 0}, {2, 2, 3, 0}};
        for (int[] d : readers) {
            MatchPipe x = ready(4);
            step(x, 0, 0, 2, 0, 0);
            step(x, 0, d[0], d[1], d[2], d[3]);
            stagesAre("kind " + d[0] + " reads field 2", x, 0, 1);
        }
        int[][] others = {{0, 3, 2, 2}, {1, 3, 0, 2}, {3, 3, 1, 2}, {4, 2, 2, 2}, {5, 2, 1, 2}, {6, 2, 2, 2}, {7, 2, 0, 2},
            {8, 3, 0, 2}};
        for (int[] d : others) {
            MatchPipe x = ready(4);
            step(x, 0, 0, 2, 0, 0);
            step(x, 0, d[0], d[1], d[2], d[3]);
            stagesAre("kind " + d[0] + " does not read field 2", x, 0, 0);
        }
        MatchPipe second = ready(4);
        step(second, 0, 0, 2, 0, 0);
        int action = second.action();
        second.apply(second.table(0, 2, 0, 1 << action, action));
        stagesAre("the second key is read", second, 0, 1);
        MatchPipe behind = ready(4);
        step(behind, 2, 0, 3, 0, 0);
        step(behind, 0, 0, 2, 0, 0);
        stagesAre("read first, written behind it", behind, 0, 0);
        MatchPipe first = ready(4);
        step(first, 0, 0, 2, 0, 0);
        step(first, 0, 0, 3, 0, 0);
        step(first, 2, 0, 1, 0, 0);
        stagesAre("what the first of three writes", first, 0, 0, 1);
        MatchPipe fresh = ready(4);
        step(fresh, 0, 0, 2, 0, 0);
        step(fresh, 2, 0, 3, 0, 0);
        step(fresh, 2, 0, 1, 0, 0);
        stagesAre("what was written a stage ahead", fresh, 0, 1, 1);
    }

    private static void stagesByPortAndDrop() {
        MatchPipe x = ready(2);
        step(x, 0, 4, 0, 1, 0);
        step(x, 0, 6, 0, 0, 0);
        step(x, 0, 5, 0, 1, 0);
        step(x, 0, 6, 0, 0, 0);
        step(x, 0, 6, 0, 0, 0);
        stagesAre("PORT and DROP", x, 0, 0, 1, 1, 2);
        MatchPipe y = ready(2);
        int may = y.action();
        y.doing(may, 0, 1, 1, 1);
        y.action();
        y.apply(y.table(0, NONE, 0, 3, 1));
        y.apply(y.table(1, NONE, 0, 2, 1));
        stagesAre("an action that may be done", y, 0, 1);
    }

    private static void threeInAStage() {
        MatchPipe x = ready(2);
        for (int i = 0; i < 7; i++) {
            int action = x.action();
            x.apply(x.table(0, NONE, 0, 1 << action, action));
        }
        stagesAre("three in a stage", x, 0, 0, 0, 1, 1, 1, 2);
    }

    private static void behindTests() {
        MatchPipe x = ready(2);
        x.action();
        x.table(0, NONE, 0, 1, 0);
        x.table(0, NONE, 0, 1, 0);
        x.table(0, NONE, 0, 1, 0);
        x.apply(0);
        x.test(0, 0, 0, 5);
        x.apply(1);
        x.apply(2);
        x.test(0, 0, 0, 5);
        stagesAre("a TEST is the last of its stage", x, 0, 0, 1, 1, 1);
    }

    private static void thirteenStages() {
        MatchPipe x = ready(1);
        for (int i = 0; i < 12; i++) {
            x.test(0, 0, 0, i + 1);
        }
        stagesAre("twelve", x, 0, 1, 2, 3, 4, 5, 6, 7, 8, 9, 10, 11);
        MatchPipe y = ready(2);
        y.action();
        y.table(0, NONE, 0, 1, 0);
        y.apply(0);
        for (int i = 1; i < 15; i++) {
            y.test(0, 0, 0, i + 1);
        }
        faultIs("a 13th stage", y, 6, 13);
    }

    private static void theFirstFault() {
        MatchPipe x = withFields(1);
        for (int i = 0; i < 12; i++) {
            x.test(0, 0, 0, i + 1);
        }
        step(x, 0, 7, 0, 0, 0);
        step(x, 0, 7, 0, 0, 0);
        x.apply(0);
        x.test(0, 0, 0, 0);
        faultIs("1 before all", x, 1, 0);
        x.state(NONE, NONE, NONE, NONE, NONE);
        x.otherwise(0, 0);
        faultIs("2 before 3", x, 2, 0);
        x.otherwise(0, NONE);
        faultIs("3 before 4", x, 3, 15);

        MatchPipe y = ready(1);
        for (int i = 0; i < 12; i++) {
            y.test(0, 0, 0, i + 1);
        }
        step(y, 0, 7, 0, 0, 0);
        step(y, 0, 7, 0, 0, 0);
        faultIs("5 before 6", y, 5, 0);
        y.apply(0);
        faultIs("4 before 5", y, 4, 14);
        y.clear();
        Check.due("cleared: fault", 0, () -> y.fault(0));
        Check.due("cleared: place", NONE, () -> y.fault(1));
    }
}
