/** Promises 12 to 14: stages, and the faults of laying. */
public final class LayTests {
    private static final int MIN = Integer.MIN_VALUE;
    private static final int MAX = Integer.MAX_VALUE;
    private static final String READER = "state(-1,-1,-1,-1,-1) -> 0";
    private static final String FOUR = "field(8); field(8); field(8); field(8); " + READER;

    public static void main(String[] args) {
        Promises.test(LayTests.class, 12, 14);
    }

    private static Run laid(Run run, int... stages) {
        int last = stages.length == 0 ? 0 : stages[stages.length - 1];
        run.then("stage(0) -> NONE", "count(5) -> 0", "lay() -> " + (last + 1), "fault(0) -> 0", "fault(1) -> NONE",
            "count(5) -> " + (last + 1));
        for (int step = 0; step < stages.length; step++) {
            run.then("stage(" + step + ") -> " + stages[step]);
        }
        return run.then("stage(-1) -> NONE", "stage(" + stages.length + ") -> NONE");
    }

    private static Run faulty(Run run, int fault, int place) {
        return run.then("lay() -> IAE", "fault(0) -> " + fault, "fault(1) -> " + place, "count(5) -> 0",
            "stage(0) -> NONE", "packet() -> ISE", "run(1) -> ISE");
    }

    /** Steps that each do a table with one key and one action of one doing: "key: doing". */
    private static Run steps(String... texts) {
        Run run = new Run(FOUR);
        for (int i = 0; i < texts.length; i++) {
            String[] parts = texts[i].split(": ");
            run.tableStep(i, Integer.parseInt(parts[0]), parts[1]);
        }
        return run;
    }

    static void promise12_lay_noStepIsOneStage() {
        laid(new Run(READER)).then("packet() -> 0", "run(1) -> 0", "run(1) -> 1").out(0, 0, 0, 0, 0, 1);
    }

    static void promise12_lay_whenLaid() {
        laid(new Run(READER, "field(8)", "test(0,0,0,1)"), 0).then("lay() -> ISE", "lay() -> ISE", "count(5) -> 1",
            "stage(0) -> 0", "fault(0) -> 0", "fault(1) -> NONE");
    }

    static void promise12_lay_threeStepsInAStage() {
        laid(steps("0: 7,0,0,1", "0: 7,1,0,1", "0: 7,2,0,1"), 0, 0, 0);
    }

    static void promise12_lay_aFourthStepIsInTheNextStage() {
        laid(steps("0: 7,0,0,1", "0: 7,1,0,1", "0: 7,2,0,1", "0: 7,3,0,1"), 0, 0, 0, 1);
        Run run = new Run(FOUR, "action()").times(8, "table(0,-1,0,1,0); apply(#)");
        laid(run, 0, 0, 0, 1, 1, 1, 2, 2);
    }

    static void promise12_lay_noneBehindATest() {
        Run run = new Run(FOUR, "action()").times(4, "table(0,-1,0,1,0)");
        laid(run.then("apply(0)", "test(0,0,0,6)", "apply(1)", "apply(2)", "test(0,0,0,6)", "apply(3)"), 0, 0, 1, 1, 1, 2);
        laid(new Run(FOUR, "test(0,0,0,1)", "test(0,0,0,2)"), 0, 1);
    }

    static void promise12_lay_aTestMayBeTheThird() {
        Run run = new Run(FOUR, "action()").times(3, "table(0,-1,0,1,0)");
        laid(run.then("apply(0)", "apply(1)", "test(0,0,0,4)", "apply(2)"), 0, 0, 0, 1);
        Run four = new Run(FOUR, "action()").times(3, "table(0,-1,0,1,0); apply(#)");
        laid(four.then("test(0,0,0,4)"), 0, 0, 0, 1);
    }

    static void promise12_lay_aKeyThatWasWrittenAhead() {
        for (String writer : new String[] {"0,2,1,0", "1,2,1,0", "2,2,1,0", "3,2,1,0", "8,2,1,0"}) {
            laid(steps("0: " + writer, "2: 4,0,0,0"), 0, 1);
            laid(steps("0: " + writer, "1: 4,0,0,0"), 0, 0);
        }
    }

    static void promise12_lay_aSecondKeyThatWasWrittenAhead() {
        laid(steps("0: 0,2,0,0").then("action()", "table(0,2,0,2,1)", "apply(1)"), 0, 1);
        laid(steps("0: 0,2,0,0").then("action()", "table(0,3,0,2,1)", "apply(1)"), 0, 0);
    }

    static void promise12_lay_aFieldThatIsWrittenTwice() {
        for (String writer : new String[] {"0,2,1,0", "1,2,1,0", "2,2,1,0", "3,2,1,0", "8,2,1,0"}) {
            laid(steps("0: " + writer, "0: 0,2,0,0"), 0, 1);
            laid(steps("0: 0,2,0,0", "0: " + writer), 0, 1);
            laid(steps("0: 0,3,0,0", "0: " + writer), 0, 0);
        }
    }

    static void promise12_lay_aTestOfAFieldThatWasWrittenAhead() {
        laid(steps("0: 0,2,0,0").then("test(2,0,0,2)"), 0, 1);
        laid(steps("0: 0,2,0,0").then("test(3,0,0,2)"), 0, 0);
    }

    static void promise12_lay_aDoingThatReadsWhatWasWrittenAhead() {
        for (String reader : new String[] {"1,3,2,0", "2,3,2,0", "7,1,2,0", "8,3,2,0", "2,2,3,0"}) {
            laid(steps("0: 0,2,0,0", "0: " + reader), 0, 1);
        }
    }

    static void promise12_lay_whatADoingDoesNotRead() {
        String[] others = {"0,3,2,2", "1,3,0,2", "2,3,0,2", "3,3,1,2", "4,2,2,2", "5,2,1,2", "6,2,2,2", "7,2,0,2", "8,3,0,2"};
        for (String other : others) {
            laid(steps("0: 0,2,0,0", "0: " + other), 0, 0);
        }
        laid(steps("0: 0,1,0,0", "0: 3,3,1,1"), 0, 0);
    }

    static void promise12_lay_whatADoingDoesNotWrite() {
        for (String doing : new String[] {"4,2,2,2", "5,2,1,2", "6,2,2,2", "7,2,1,2"}) {
            laid(steps("0: " + doing, "2: 0,3,0,0"), 0, 0);
        }
    }

    static void promise12_lay_portAndDropAreWrittenAsFields() {
        laid(steps("0: 4,0,1,0", "0: 4,0,2,0"), 0, 1);
        laid(steps("0: 4,0,1,0", "0: 5,0,1,0"), 0, 1);
        laid(steps("0: 5,0,1,0", "0: 4,0,1,0"), 0, 1);
        laid(steps("0: 5,0,1,0", "0: 5,0,0,0"), 0, 1);
        laid(steps("0: 6,0,0,0", "0: 6,0,0,0"), 0, 1);
        laid(steps("0: 4,0,1,0", "0: 6,0,0,0"), 0, 0);
        laid(steps("0: 6,0,0,0", "0: 5,0,0,0"), 0, 0);
    }

    static void promise12_lay_portAndDropAreNoneOfTheFields() {
        for (String way : new String[] {"4,0,1,0", "5,0,1,0", "6,0,0,0"}) {
            for (int field = 0; field < 16; field++) {
                String write = "0," + field + ",9,0";
                laid(new Run().times(16, "field(2)").then(READER).tableStep(0, 0, way).tableStep(1, field, write), 0, 0);
                int other = field == 0 ? 1 : 0;
                laid(new Run().times(16, "field(2)").then(READER).tableStep(0, 0, write).tableStep(1, other, way), 0, 0);
            }
        }
    }

    static void promise12_lay_twoDoingsThatAreAlike() {
        for (String writer : new String[] {"0,2,1,0", "1,2,1,0", "2,2,1,0", "3,2,1,0", "8,2,1,0"}) {
            laid(twoActions("doing(0," + writer + "); doing(0," + writer + ")", "table(0,-1,0,1,0)", "table(2,-1,0,4,2)"), 0, 1);
        }
        for (String way : new String[] {"4,0,1,0", "5,0,1,0", "6,0,0,0"}) {
            laid(twoActions("doing(0," + way + "); doing(0," + way + "); doing(2," + way + ")", "table(0,-1,0,1,0)",
                "table(2,-1,0,4,2)"), 0, 1);
        }
        for (String reader : new String[] {"1,3,2,0", "2,3,2,0", "7,1,2,0", "8,3,2,0"}) {
            laid(twoActions("doing(2,0,2,9,0); doing(0," + reader + "); doing(0," + reader + ")", "table(0,-1,0,4,2)",
                "table(1,-1,0,1,0)"), 0, 1);
        }
    }

    static void promise12_lay_twoActionsThatAreAlike() {
        laid(twoActions("doing(0,0,2,9,0); doing(1,0,2,8,0)", "table(0,-1,0,3,0)", "table(2,-1,0,4,2)"), 0, 1);
        laid(twoActions("doing(0,4,0,9,0); doing(1,4,0,8,0); doing(2,5,0,0,0)", "table(0,-1,0,3,0)", "table(2,-1,0,4,2)"), 0, 1);
        laid(twoActions("doing(2,0,2,9,0); doing(0,7,0,2,1); doing(1,7,0,2,1)", "table(0,-1,0,4,2)", "table(1,-1,0,3,0)"), 0, 1);
    }

    /** Three actions, two tables, two steps. */
    private static Run twoActions(String doings, String first, String second) {
        return new Run(FOUR, "action()", "action()", "action()", doings, first, second, "apply(0)", "apply(1)");
    }

    static void promise12_lay_theSixteenthAction() {
        laid(sixteenActions("doing(15,0,1,9,0)", "table(0,-1,0,0x8000,15)", "table(1,-1,0,1,0)"), 0, 1);
        laid(sixteenActions("doing(0,0,1,9,0); doing(15,7,0,1,1)", "table(0,-1,0,1,0)", "table(0,-1,0,0x8000,15)"), 0, 1);
        laid(sixteenActions("doing(0,0,1,9,0); doing(15,7,0,1,1)", "table(0,-1,0,1,0)", "table(0,-1,0,0x4000,14)"), 0, 0);
        faulty(sixteenActions("doing(15,7,1,0,1)", "table(0,-1,0,0x8000,15)", "table(0,-1,0,0x8000,15)"), 5, 1);
    }

    private static Run sixteenActions(String doings, String first, String second) {
        return new Run("field(2)", "field(2)", READER).times(16, "action()").then(doings, first, second, "apply(0)",
            "apply(1)");
    }

    static void promise12_lay_readAheadAndWrittenBehind() {
        laid(steps("2: 4,0,0,0", "0: 0,2,0,0"), 0, 0);
        laid(steps("0: 1,3,2,0", "0: 0,2,0,0"), 0, 0);
    }

    static void promise12_lay_aStepMayReadWhatItWritesItself() {
        laid(steps("2: 2,2,2,1"), 0);
    }

    static void promise12_lay_whatTheFirstOfThreeWrites() {
        laid(steps("0: 0,2,0,0", "0: 0,3,0,0", "2: 4,0,0,0"), 0, 0, 1);
    }

    static void promise12_lay_whatWasWrittenAStageAhead() {
        laid(steps("0: 0,2,0,0", "2: 0,3,0,0", "2: 4,0,0,0"), 0, 1, 1);
    }

    static void promise12_lay_stepsGoBackToNoStage() {
        laid(steps("0: 0,2,0,0", "2: 0,3,0,0", "0: 4,0,0,0"), 0, 1, 1);
    }

    static void promise12_lay_eachActionThatATableMayDo() {
        laid(new Run(FOUR, "action()", "action()", "doing(1,0,2,9,0)", "table(0,-1,0,3,0)", "table(2,-1,0,1,0)",
            "table(2,-1,0,1,0)", "apply(0)", "apply(1)"), 0, 1);
        laid(new Run(FOUR, "action()", "action()", "doing(1,0,2,9,0)", "table(0,-1,0,1,0)", "table(2,-1,0,1,0)",
            "apply(0)", "apply(1)"), 0, 0);
    }

    static void promise12_lay_eachOfFourDoings() {
        for (int place = 0; place < 4; place++) {
            Run run = new Run(FOUR, "action()", "action()");
            for (int i = 0; i < 4; i++) {
                run.then(i == place ? "doing(0,0,2,9,0)" : "doing(0,7,0,0,1)");
            }
            laid(run.then("table(0,-1,0,1,0)", "table(2,-1,0,2,1)", "apply(0)", "apply(1)"), 0, 1);
        }
    }

    static void promise12_lay_allThatFourDoingsWrite() {
        String[] writers = {"0,1,0,0", "4,0,0,0", "6,0,0,0", "8,2,3,0"};
        String[] behind = {"1: 7,1,3,1", "3: 5,0,0,0", "3: 6,0,0,0", "2: 7,1,3,1", "3: 1,1,3,0", "3: 7,1,1,1", "3: 7,1,2,1"};
        for (int turn = 0; turn < 4; turn++) {
            for (String step : behind) {
                Run run = new Run(FOUR, "action()");
                for (int i = 0; i < 4; i++) {
                    run.then("doing(0," + writers[(i + turn) % 4] + ")");
                }
                String[] parts = step.split(": ");
                run.then("table(3,-1,0,1,0)", "apply(0)").tableStep(1, Integer.parseInt(parts[0]), parts[1]);
                laid(run, 0, 1);
            }
        }
    }

    static void promise12_lay_allThatFourDoingsRead() {
        String[] readers = {"1,0,1,0", "2,0,2,0", "7,0,3,0", "8,0,4,1"};
        for (int turn = 0; turn < 4; turn++) {
            for (int field = 0; field < 7; field++) {
                Run run = new Run("field(8)", "field(8)", "field(8)", FOUR, "action()", "action()",
                    "doing(1,0," + field + ",9,0)");
                for (int i = 0; i < 4; i++) {
                    run.then("doing(0," + readers[(i + turn) % 4] + ")");
                }
                run.then("table(6,-1,0,2,1)", "table(5,-1,0,1,0)", "apply(0)", "apply(1)");
                laid(run, 0, field < 6 ? 1 : 0);
            }
        }
    }

    static void promise12_lay_field0() {
        laid(steps("1: 0,0,9,0", "1: 4,0,0,0"), 0, 0);
        laid(steps("1: 0,0,9,0", "0: 4,0,0,0"), 0, 1);
    }

    static void promise12_lay_field15() {
        Run run = new Run().times(16, "field(2)").then(READER).tableStep(0, 0, "0,15,0,0").tableStep(1, 15, "4,0,0,0");
        laid(run, 0, 1);
    }

    static void promise12_lay_twelveStages() {
        Run run = new Run("field(8)", READER).times(12, "test(0,0,0,12)");
        laid(run, 0, 1, 2, 3, 4, 5, 6, 7, 8, 9, 10, 11).then("packet()", "run(12) -> 0", "run(1) -> 1").out(0, 0, 0, 0, 0, 12);
    }

    static void promise12_lay_aFaultLeavesItOpen() {
        faulty(new Run("field(8)"), 1, 0).then("field(8) -> 1", READER, "action() -> 0", "table(0,-1,0,1,0) -> 0",
            "apply(0) -> 0", "otherwise(0,-2) -> nothing", "lay() -> 1", "fault(0) -> 0", "fault(1) -> NONE");
    }

    static void promise13_fault_beforeTheFirstLay() {
        new Run("fault(0) -> 0", "fault(1) -> NONE", READER, "fault(0) -> 0", "fault(1) -> NONE");
    }

    static void promise13_fault_anotherWhat() {
        new Run().each("fault(#) -> NONE", -1, 2, 3, MIN, MAX).then("lay() -> IAE")
            .each("fault(#) -> NONE", -1, 2, 3, MIN, MAX).then(READER, "lay()").each("fault(#) -> NONE", -1, 2, MIN, MAX);
    }

    static void promise13_fault_goneBehindAGoodLay() {
        laid(faulty(new Run(), 1, 0).then("fault(0) -> 1", READER)).then("lay() -> ISE", "fault(0) -> 0");
    }

    static void promise13_fault_staysUntilTheNextLay() {
        faulty(new Run("field(8)"), 1, 0).then(READER, "fault(0) -> 1", "fault(1) -> 0", "test(0,0,0,0)", "fault(0) -> 1");
        faulty(faulty(new Run("field(8)", "test(0,0,0,0)"), 1, 0).then(READER), 3, 0);
    }

    static void promise13_fault1_noStateAtAll() {
        faulty(new Run(), 1, 0);
    }

    static void promise13_fault1_otherwiseTellsOfAStateThatIsNotThere() {
        Run run = new Run("field(8)").times(3, "state(0,-1,-1,-1,-1)");
        faulty(run.then("otherwise(2,3)"), 1, 2).then("otherwise(2,2)");
        laid(run);
        faulty(new Run(READER, "otherwise(0,7)"), 1, 0);
        faulty(new Run(READER, "otherwise(0,1)"), 1, 0);
    }

    static void promise13_fault1_aCaseTellsOfAStateThatIsNotThere() {
        for (int place = 0; place < 4; place++) {
            Run run = new Run("field(8)", "state(0,-1,-1,-1,0)", "state(0,-1,-1,-1,0)");
            for (int i = 0; i < 4; i++) {
                run.then("choice(1," + i + ",255," + (i == place ? 2 : 1) + ")");
            }
            faulty(run, 1, 1);
        }
    }

    static void promise13_fault1_theLeastStateThatTellsOfOne() {
        faulty(new Run("field(8)").times(4, "state(0,-1,-1,-1,0)").then("otherwise(3,4)", "choice(1,0,0,7)",
            "otherwise(2,5)"), 1, 1);
    }

    static void promise13_fault1_aCaseOfOneThatChoosesByNone() {
        faulty(new Run(READER, "choice(0,0,0,1)"), 1, 0);
    }

    static void promise13_fault1_allEightAreThere() {
        Run run = new Run("field(8)").times(8, "state(0,-1,-1,-1,-1); otherwise(#,7)");
        laid(run);
    }

    static void promise13_fault1_acceptAndRejectAreNoStates() {
        laid(new Run("field(8)", "state(0,-1,-1,-1,0)", "choice(0,0,0,-1)", "choice(0,0,0,-2)", "otherwise(0,-2)"));
    }

    static void promise13_fault2_aStateThatComesToItself() {
        faulty(new Run(READER, "otherwise(0,0)"), 2, 0);
        faulty(new Run("field(8)", "state(-1,-1,-1,-1,0)", "choice(0,3,255,0)"), 2, 0);
    }

    static void promise13_fault2_theLeastThatComesToItself() {
        Run run = new Run("field(8)", "state(-1,-1,-1,-1,0)", "state(-1,-1,-1,-1,0)", "state(-1,-1,-1,-1,-1)",
            "otherwise(0,2)", "choice(1,3,255,2)", "otherwise(2,1)");
        faulty(run, 2, 1).then("otherwise(2,-1)");
        laid(run);
    }

    static void promise13_fault2_allEightStates() {
        Run run = new Run("field(8)").times(8, "state(-1,-1,-1,-1,0)");
        for (int i = 0; i < 8; i++) {
            run.then("choice(" + i + ",9,255," + (i + 7) % 8 + ")");
        }
        faulty(run, 2, 0);
        Run there = new Run("field(8)").times(8, "state(-1,-1,-1,-1,0)");
        for (int i = 0; i < 8; i++) {
            there.then("otherwise(" + i + "," + (i + 1) % 8 + ")");
        }
        faulty(there, 2, 0);
    }

    static void promise13_fault2_aWayThroughEightStatesThatEnds() {
        Run run = new Run().times(8, "state(-1,-1,-1,-1,-1)").times(7, "otherwise(#,7)");
        run.then("otherwise(0,1)", "otherwise(1,2)", "otherwise(2,3)", "otherwise(3,4)", "otherwise(4,5)",
            "otherwise(5,6)", "otherwise(6,7)");
        laid(run).then("packet()", "run(2)", "out(0,1) -> 0");
    }

    static void promise13_fault2_eachWayOn() {
        String[] ways = {"choice(0,1,255,0)", "choice(0,2,255,-1)", "choice(0,3,255,1)", "choice(0,4,255,-2)"};
        for (int turn = 0; turn < 4; turn++) {
            Run run = new Run("field(8)", "state(-1,-1,-1,-1,0)", "state(0,-1,-1,-1,-1)", "otherwise(0,1)");
            for (int i = 0; i < 4; i++) {
                run.then(ways[(i + turn) % 4]);
            }
            faulty(run, 2, 0);
        }
        faulty(new Run("field(8)", "state(-1,-1,-1,-1,0)", "choice(0,1,255,-1)", "otherwise(0,0)"), 2, 0);
    }

    static void promise13_fault2_severalWaysToOneState() {
        faulty(new Run("field(8)", "state(-1,-1,-1,-1,0)", "choice(0,1,255,0)", "otherwise(0,0)"), 2, 0);
        faulty(new Run("field(8)", "state(-1,-1,-1,-1,0)", "choice(0,1,255,0)", "choice(0,2,255,0)"), 2, 0);
        faulty(new Run("field(8)", "state(-1,-1,-1,-1,0)", "state(-1,-1,-1,-1,-1)", "choice(0,1,255,1)",
            "choice(0,2,255,1)", "choice(0,3,255,1)", "otherwise(0,1)", "otherwise(1,0)"), 2, 0);
    }

    static void promise13_fault2_anyValueAndMask() {
        for (String valueAndMask : new String[] {"0,0", "-1,-1", "MIN,MIN", "-1,1", "1,-1", "0x100,0xF00"}) {
            faulty(new Run("field(8)", "state(-1,-1,-1,-1,0)", "choice(0," + valueAndMask + ",0)"), 2, 0);
        }
    }

    static void promise13_fault2_acceptAndRejectAreNoWayOn() {
        laid(new Run("field(8)", "state(-1,-1,-1,-1,0)", "choice(0,1,255,-1)", "choice(0,2,255,-2)", "otherwise(0,-2)"));
        laid(new Run("field(8)", "state(-1,-1,-1,-1,0)", "state(-1,-1,-1,-1,0)", "otherwise(0,1)", "choice(1,1,255,-1)",
            "choice(1,2,255,-2)"));
    }

    static void promise13_fault2_aFieldOnTheWay() {
        laid(new Run("field(8)", "state(0,-1,-1,-1,-1)", "otherwise(0,0)"));
        laid(new Run("field(8)", "state(-1,-1,-1,-1,-1)", "state(0,-1,-1,-1,-1)", "otherwise(0,1)", "otherwise(1,0)"));
    }

    static void promise13_fault2_casesOfOneThatChoosesByNone() {
        laid(new Run(READER, "choice(0,0,0,0)"));
        laid(new Run(READER, "state(-1,-1,-1,-1,-1)", "choice(0,0,0,1)", "otherwise(1,0)"));
    }

    static void promise13_fault2_statesThatReadingNeverComesTo() {
        faulty(new Run(READER, "state(-1,-1,-1,-1,-1)", "otherwise(1,1)"), 2, 1);
    }

    static void promise13_fault3_aTestsLaterStepIsNot() {
        for (int to : new int[] {0, 1, -1, -2, 4, 16, MIN, MAX}) {
            faulty(new Run("field(8)", READER, "test(0,0,0,3)", "test(0,0,0," + to + ")", "test(0,0,0,2)"), 3, 1);
        }
    }

    static void promise13_fault3_theNextStepAndTheEndAre() {
        laid(new Run("field(8)", READER, "test(0,0,0,1)", "test(0,0,0,3)", "test(0,0,0,3)"), 0, 1, 2);
        laid(new Run("field(8)", READER, "action()", "table(0,-1,0,1,0)", "apply(0)", "test(0,0,0,2)"), 0, 0);
    }

    static void promise13_fault3_goneWithMoreSteps() {
        laid(faulty(new Run("field(8)", READER, "test(0,0,0,2)"), 3, 0).then("test(0,0,0,2)"), 0, 1);
    }

    static void promise13_fault4_aTableInTwoSteps() {
        Run run = new Run("field(8)", READER, "action()").times(3, "table(0,-1,0,1,0)");
        faulty(run.then("apply(0)", "apply(1)", "test(0,0,0,4)", "apply(1)", "apply(2)", "apply(0)"), 4, 3);
        faulty(new Run("field(8)", READER, "action()", "table(0,-1,0,1,0)", "apply(0)", "apply(0)", "apply(0)"), 4, 1);
    }

    static void promise13_fault4_theEighthTable() {
        Run run = new Run("field(8)", READER, "action()").times(8, "table(0,-1,0,1,0); apply(#)");
        faulty(run.then("apply(7)"), 4, 8);
    }

    static void promise13_fault4_twoTablesThatAreAlike() {
        laid(new Run("field(8)", READER, "action()", "table(0,-1,0,1,0)", "table(0,-1,0,1,0)", "apply(0)", "apply(1)"),
            0, 0);
    }

    static void promise13_fault5_anArrayOfTwoTables() {
        faulty(steps("0: 7,3,1,1", "0: 7,3,1,1"), 5, 3);
        faulty(steps("0: 7,3,1,1", "0: 8,1,0,3"), 5, 3);
        faulty(steps("0: 8,1,0,0", "0: 8,1,0,0"), 5, 0);
    }

    static void promise13_fault5_theLeastArray() {
        faulty(steps("0: 7,3,1,1", "0: 7,1,1,1", "0: 7,3,1,1", "0: 7,1,1,1"), 5, 1);
        faulty(steps("0: 7,2,1,1", "0: 7,2,1,1", "0: 7,0,1,1", "0: 7,0,1,1"), 5, 0);
        faulty(steps("0: 7,0,1,1", "0: 7,0,1,1", "0: 7,2,1,1", "0: 7,2,1,1"), 5, 0);
    }

    static void promise13_fault5_allThatFourDoingsUse() {
        String[] users = {"7,0,3,0", "8,0,3,1", "7,2,3,0", "8,0,3,3"};
        for (int turn = 0; turn < 4; turn++) {
            for (int array = 0; array < 4; array++) {
                Run run = new Run(FOUR, "action()");
                for (int i = 0; i < 4; i++) {
                    run.then("doing(0," + users[(i + turn) % 4] + ")");
                }
                run.then("table(3,-1,0,1,0)", "apply(0)").tableStep(1, 3, "7," + array + ",3,1");
                faulty(run, 5, array);
            }
        }
    }

    static void promise13_fault5_anArrayOfThreeTables() {
        faulty(steps("0: 7,3,1,1", "0: 7,3,1,1", "0: 7,3,1,1"), 5, 3);
        faulty(steps("0: 7,3,1,1", "0: 7,3,1,1", "0: 7,3,1,1", "0: 7,3,1,1"), 5, 3);
    }

    static void promise13_fault5_anArrayTwiceInOneOfThem() {
        for (String user : new String[] {"7,2,0,1", "8,1,0,2"}) {
            faulty(twoActions("doing(0," + user + "); doing(0," + user + "); doing(2,7,2,0,1)", "table(0,-1,0,1,0)",
                "table(0,-1,0,4,2)"), 5, 2);
            faulty(twoActions("doing(0," + user + "); doing(1," + user + "); doing(2,7,2,0,1)", "table(0,-1,0,3,0)",
                "table(0,-1,0,4,2)"), 5, 2);
        }
    }

    static void promise13_fault5_aTableWithoutAStep() {
        laid(steps("0: 7,0,1,1").then("table(0,-1,0,1,0)", "table(1,-1,0,1,0)"), 0);
    }

    static void promise13_fault5_anArrayTwiceInOneTable() {
        laid(new Run(FOUR, "action()", "action()", "doing(0,7,2,0,1)", "doing(0,8,1,0,2)", "doing(1,7,2,0,1)",
            "table(0,-1,0,3,0)", "apply(0)"), 0);
    }

    static void promise13_fault5_anActionThatIsDoneWithoutAMatchOnly() {
        faulty(new Run(FOUR, "action()", "action()", "doing(1,7,2,0,1)", "table(0,-1,0,3,0)", "table(0,-1,0,3,1)",
            "apply(0)", "apply(1)"), 5, 2);
    }

    static void promise13_fault5_otherArrays() {
        laid(steps("0: 7,0,0,3", "0: 7,1,0,2", "0: 7,2,0,1", "0: 7,3,0,0"), 0, 0, 0, 1);
        laid(steps("0: 8,1,0,3", "0: 7,1,0,1"), 0, 0);
    }

    static void promise13_fault6_aThirteenthStage() {
        faulty(new Run("field(8)", READER).times(13, "test(0,0,0,13)"), 6, 12);
        faulty(new Run("field(8)", READER).times(16, "test(0,0,0,16)"), 6, 12);
        faulty(new Run("field(8)", READER, "action()", "table(0,-1,0,1,0)", "apply(0)").times(14, "test(0,0,0,15)"), 6, 13);
    }

    static void promise13_fault_theFirstInTheirOrder() {
        Run run = new Run("field(8)").times(12, "test(0,0,0,12)").tableStep(0, 0, "7,0,0,0").tableStep(1, 0, "7,0,0,0")
            .then("apply(0)", "test(0,0,0,0)");
        faulty(run, 1, 0).then(READER, "otherwise(0,0)");
        faulty(run, 2, 0).then("otherwise(0,-1)");
        faulty(run, 3, 15);
    }

    static void promise13_fault_4Before5Before6() {
        Run run = new Run("field(8)", READER).times(12, "test(0,0,0,12)").tableStep(0, 0, "7,0,0,0");
        faulty(run, 6, 12);
        faulty(run.tableStep(1, 0, "7,0,0,0"), 5, 0);
        faulty(run.then("apply(0)"), 4, 14);
    }

    static void promise13_fault_1Before2() {
        faulty(new Run(READER, "state(-1,-1,-1,-1,-1)", "otherwise(0,0)", "otherwise(1,2)"), 1, 1);
    }

    static void promise14_stage_noSuchStep() {
        laid(new Run("field(8)", READER, "test(0,0,0,1)", "test(0,0,0,2)"), 0, 1)
            .each("stage(#) -> NONE", 2, 15, 16, -1, MIN, MAX);
    }

    static void promise14_stage_noStepAtAll() {
        laid(new Run(READER)).each("stage(#) -> NONE", 0, 1, -1);
    }

    static void promise14_stage_notLaid() {
        new Run("field(8)", "test(0,0,0,1)", "stage(0) -> NONE", "lay() -> IAE", "stage(0) -> NONE", READER,
            "stage(0) -> NONE", "lay() -> 1", "stage(0) -> 0");
    }

    static void promise14_stage_behindA13thStage() {
        faulty(new Run("field(8)", READER).times(13, "test(0,0,0,13)"), 6, 12).times(13, "stage(#) -> NONE");
    }

    static void promise14_stage_all16Steps() {
        Run run = new Run("field(8)", READER, "action()").times(8, "table(0,-1,0,1,0); apply(#)")
            .times(8, "test(0,0,0,16)");
        laid(run, 0, 0, 0, 1, 1, 1, 2, 2, 2, 3, 4, 5, 6, 7, 8, 9);
    }
}
