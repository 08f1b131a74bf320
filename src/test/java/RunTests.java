/** Promises 21 to 26: cycles, and what is told of operations, arrays, tables and numbers. */
public final class RunTests {
    private static final int MIN = Integer.MIN_VALUE;
    private static final int MAX = Integer.MAX_VALUE;
    private static final String READER = "state(-1,-1,-1,-1,-1) -> 0";
    private static final String LAID = READER + "; lay() -> 1";
    private static final String TWO_STAGES = "field(8); " + READER + "; test(0,0,0,1); test(0,0,0,2); lay() -> 2";
    /** A byte is read; words of array 0 count packets by it, and byte 9 is dropped, byte 7 REJECTed. */
    private static final String TALLY = "field(8); state(0,-1,-1,-1,0); choice(0,7,255,-2); action(); action();"
        + "doing(0,7,0,0,1); doing(1,6,0,0,0); table(0,-1,0,3,0); apply(0); lay() -> 1;"
        + "key(9,255,0,0); insert(0,0,1,0,0) -> 0; run(2) -> 1";

    public static void main(String[] args) {
        Promises.test(RunTests.class, 21, 26);
    }

    static void promise21_run_tooFewOrTooManyCycles() {
        new Run(LAID, "packet()").each("run(#) -> IAE", -1, 101, -100, MIN, MAX).counts(1, 1, 0, 0, 0, 1)
            .then("run(0) -> 0").counts(1, 1, 0, 0, 0, 1).then("run(100) -> 1").counts(1, 0, 0, 1, 100, 1);
    }

    static void promise21_run_notLaid() {
        new Run("run(0) -> ISE", "run(1) -> ISE", "run(100) -> ISE", "lay() -> IAE", "run(1) -> ISE", "count(4) -> 0", LAID,
            "run(1) -> 0");
    }

    static void promise21_run_whetherItIsLaidIsLookedAtFirst() {
        new Run().each("run(#) -> ISE", -1, 101, MIN, MAX);
    }

    static void promise21_run_anEmptyLine() {
        new Run(LAID, "run(1) -> 0", "run(100) -> 0").counts(0, 0, 0, 0, 101, 1);
    }

    static void promise21_run_oneCycleAtATime() {
        new Run(TWO_STAGES, "packet()", "packet()", "packet()").counts(3, 3, 0, 0, 0, 2)
            .then("run(1) -> 0").counts(3, 2, 1, 0, 1, 2)
            .then("run(1) -> 0").counts(3, 1, 2, 0, 2, 2)
            .then("run(1) -> 1").counts(3, 0, 2, 1, 3, 2)
            .then("run(1) -> 1").counts(3, 0, 1, 2, 4, 2)
            .then("run(1) -> 1").counts(3, 0, 0, 3, 5, 2)
            .then("run(1) -> 0").counts(3, 0, 0, 3, 6, 2);
    }

    static void promise21_run_manyCyclesAtOnce() {
        new Run(TWO_STAGES).times(40, "packet()").then("run(41) -> 39").counts(40, 0, 1, 39, 41, 2).then("run(1) -> 1",
            "run(1) -> 0");
    }

    static void promise21_run_aLineThatIsFilledAgain() {
        Run run = new Run(LAID);
        for (int round = 0; round < 3; round++) {
            for (int i = 0; i < 40; i++) {
                run.then("packet() -> " + (40 * round + i));
            }
            run.then("packet() -> ISE", "run(41) -> 40");
        }
        run.counts(120, 0, 0, 120, 123, 1);
    }

    static void promise21_run_aGapInTheStages() {
        new Run(TWO_STAGES, "packet()", "run(1)", "run(1)", "packet()", "run(1) -> 1", "count(2) -> 1", "run(1) -> 0",
            "run(1) -> 1").out(0, 0, 0, 0, 0, 2).out(1, 0, 0, 0, 0, 4);
    }

    static void promise21_run_aPacketIsReadWhenItComesIn() {
        new Run(TALLY).sends(1, "05").then("word(0,5) -> 0", "run(1) -> 0", "run(1) -> 1", "word(0,5) -> 1");
    }

    static void promise21_run_rejectedIsNothingDone() {
        new Run(TALLY).sends(1, "07").sends(2, "").then("run(9) -> 2").times(16, "word(0,#) -> 0")
            .out(1, 0, 2, -1, -1, 3).out(2, 0, 2, -1, -1, 4);
    }

    static void promise21_run_laterStepsOfADroppedPacket() {
        new Run("field(8)", "state(0,-1,-1,-1,-1)").tableStep(0, 0, "6,0,0,0").tableStep(1, 0, "7,2,0,4")
            .then("lay() -> 1").sends(0, "03").then("run(2)").out(0, 0, 1, -1, -1, 1).then("word(2,3) -> 4");
    }

    static void promise21_run_twelveStagesFull() {
        Run run = new Run("field(8)", "state(0,-1,-1,-1,-1)").times(12, "test(0,0,0,12)").then("lay() -> 12");
        for (int i = 0; i < 20; i++) {
            run.sends(i, String.format("%02X", i));
        }
        run.then("run(12) -> 0").counts(20, 8, 12, 0, 12, 12).then("run(1) -> 1").counts(20, 7, 12, 1, 13, 12)
            .then("run(100) -> 19");
        for (int i = 0; i < 20; i++) {
            run.then("byteAt(" + i + ",0) -> " + i, "out(" + i + ",4) -> " + (12 + i));
        }
    }

    /** 40 packets that hold "before", then 40 that hold "after", each of two bytes, all of them OUT. */
    private static Run manyThenMany(Run run, String before, String after) {
        run.times(40, "feed(0x" + before + "0000,0,0,0,0); end(2); packet()").then("run(60)");
        return run.times(40, "feed(0x" + after + "0000,0,0,0,0); end(2); packet()").then("run(60)");
    }

    static void promise21_run_aPacketHasNoFieldsOfThoseAhead() {
        manyThenMany(new Run("field(8)", "field(8)", "state(0,-1,-1,-1,0)", "state(1,-1,-1,-1,-1)", "choice(0,1,255,1)")
            .tableStep(0, 0, "1,0,1,0").then("lay()"), "0155", "0255").bytes(39, "5555").bytes(40, "0055")
            .bytes(79, "0055");
    }

    static void promise21_run_aPacketIsNotDroppedWithThoseAhead() {
        manyThenMany(new Run("field(8)", "state(0,-1,-1,-1,-1)", "test(0,0,9,2)").tableStep(0, 0, "6,0,0,0")
            .then("lay()"), "0955", "0855").out(39, 0, 1).out(40, 0, 0, 0, 2).out(79, 0, 0, 0, 2).bytes(40, "0855");
    }

    static void promise21_run_aPacketSkipsNoStepWithThoseAhead() {
        manyThenMany(new Run("field(8)", "state(0,-1,-1,-1,-1)", "test(0,0,9,2)").tableStep(0, 0, "4,0,5,0")
            .then("lay()"), "0855", "0955").out(39, 0, 0, 0, 2).out(40, 0, 0, 5, 2).out(79, 0, 0, 5, 2);
    }

    static void promise21_run_aPacketIsNotRejectedWithThoseAhead() {
        manyThenMany(new Run("field(8)", "state(0,-1,-1,-1,0)", "choice(0,9,255,-2)", "lay()"), "0955", "0855")
            .out(39, 0, 2).out(40, 0, 0, 0, 2).out(79, 0, 0, 0, 2);
    }

    static void promise21_run_aPacketIsNotRefusedAsEntriesFarAhead() {
        Run run = new Run("field(8)", "action()", "table(0,-1,0,1,0)", LAID);
        run.times(40, "remove(0)").then("run(41) -> 40").times(40, "remove(0)").then("run(41) -> 40");
        run.times(40, "remove(0)").then("run(41) -> 40").times(40, "packet()").then("run(41) -> 40");
        for (int operation = 120; operation < 160; operation += 3) {
            run.out(operation, 0, 0, 0, 0);
        }
        run.out(119, 2, 1, -1, -1);
    }

    static void promise21_run_aPacketIsReadInThePlaceOfOneFarAhead() {
        Run run = new Run("field(8)", "state(0,-1,-1,-1,-1)", "action()", "doing(0,4,0,77,0)", "doing(0,2,0,0,1)",
            "table(0,-1,0,1,0)", "apply(0)", "lay()").sends(0, "01").sends(1, "02").sends(2, "03").then("run(9) -> 3");
        for (int number = 3; number < 128; number += 25) {
            run.times(25, "packet()").then("run(30) -> 25");
        }
        run.sends(128, "10").sends(129, "2055").sends(130, "30").then("run(9) -> 3").out(128, 0, 0, 77, 1)
            .bytes(128, "21").bytes(129, "4155").bytes(130, "61").out(127, 0, 2, -1, -1);
    }

    static void promise21_run_entriesBehindADroppedPacket() {
        Run run = new Run(TALLY).sends(1, "09").then("key(1,255,0,0)").times(18, "insert(0,0,0,0,0); remove(0)")
            .then("run(40) -> 37").out(1, 0, 1);
        for (int i = 1; i <= 18; i++) {
            run.out(2 * i, 1, 0).out(2 * i + 1, 2, 0);
        }
    }

    static void promise22_out_noSuchOperation() {
        new Run(LAID, "packet()", "packet()", "run(9)").each("out(#,0) -> NONE", 2, -1, 64, MIN, MAX)
            .each("out(#,4) -> NONE", 2, -1, 64, MIN, MAX).then("out(1,0) -> 0", "out(0,0) -> 0");
    }

    static void promise22_out_notOutYet() {
        new Run(TWO_STAGES, "packet()").times(5, "out(0,#) -> NONE").then("run(1)").times(5, "out(0,#) -> NONE")
            .then("run(1)").times(5, "out(0,#) -> NONE").then("run(1)").out(0, 0, 0, 0, 0, 2);
    }

    static void promise22_out_anotherWhat() {
        new Run(LAID, "packet()", "run(2)").each("out(0,#) -> NONE", -1, 5, 6, MIN, MAX);
    }

    static void promise22_out_ofAPacket() {
        new Run(TALLY).sends(1, "0506").then("run(9)").out(1, 0, 0, 0, 2, 3);
    }

    static void promise22_out_ofADroppedPacket() {
        new Run(TALLY).sends(1, "09").then("run(9)").out(1, 0, 1, -1, -1, 3);
    }

    static void promise22_out_ofARejectedPacket() {
        new Run(TALLY).sends(1, "07").then("run(9)").out(1, 0, 2, -1, -1, 3);
    }

    static void promise22_out_ofAnEntryThatComes() {
        new Run(TALLY, "key(1,255,0,0)", "insert(0,0,0,5,5)", "run(9)").out(1, 1, 0, -1, -1, 3);
        new Run(TALLY, "key(1,254,0,0)", "insert(0,0,0,5,5)", "run(9)").out(1, 1, 1, -1, -1, 3);
    }

    static void promise22_out_ofAnEntryThatGoes() {
        new Run(TALLY, "remove(0)", "run(9)").out(1, 2, 0, -1, -1, 3);
        new Run(TALLY, "key(1,255,0,0)", "remove(0)", "run(9)").out(1, 2, 1, -1, -1, 3);
    }

    static void promise22_out_aPortThatLooksLikeNone() {
        new Run("field(8)", READER).tableStep(0, 0, "4,0,-1,0").then("lay()", "packet()", "run(2)").out(0, 0, 0, -1, 0, 1);
    }

    static void promise22_out_thePortOfAnEarlierPacketIsGone() {
        new Run("field(8)", "state(0,-1,-1,-1,-1)", "action()", "action()", "doing(1,4,0,77,0)", "table(0,-1,0,3,0)",
            "apply(0)", "lay()", "key(1,255,0,0)", "insert(0,0,1,0,0)").times(12, "feed(0x01000000,0,0,0,0); end(1); packet()")
            .times(20, "end(1); packet()").then("run(100)", "out(12,2) -> 77")
            .each("out(#,2) -> 0", 13, 14, 15, 16, 17, 20, 24, 28, 29, 30, 31, 32);
    }

    static void promise22_out_theFirstCycleIs0() {
        new Run(LAID, "packet()", "packet()", "run(9)", "out(0,4) -> 1", "out(1,4) -> 2", "run(100)", "packet()", "run(2)",
            "out(2,4) -> 110");
    }

    /** So many packets of two bytes, the first of which is the packet's number, all of them OUT. */
    private static Run gone(int n) {
        Run run = new Run(LAID);
        for (int i = 0; i < n; i += 4) {
            for (int j = i; j < Math.min(n, i + 4); j++) {
                run.then("feed(" + (j << 24) + ",0,0,0,0)", "end(2)", "packet()");
            }
            run.then("run(5)");
        }
        return run;
    }

    static void promise22_out_all64AreRemembered() {
        Run run = gone(64).then("count(3) -> 64").out(0, 0, 0, 0, 2, 1).out(63, 0, 0, 0, 2, 79);
        run.each("out(#,0) -> 0", 1, 31, 32, 62).then("out(64,0) -> NONE");
    }

    static void promise22_out_noLongerOneOfTheLatest64() {
        gone(65).then("count(3) -> 65").times(5, "out(0,#) -> NONE").then("byteAt(0,0) -> NONE")
            .out(1, 0, 0, 0, 2, 2).then("byteAt(1,0) -> 1").out(64, 0, 0, 0, 2, 81).then("byteAt(64,0) -> 64");
    }

    static void promise22_out_those64AreOfAllKinds() {
        new Run(TALLY).times(15, "remove(0); packet()").then("run(100) -> 30").times(16, "remove(0); packet()")
            .then("run(100) -> 32", "count(3) -> 63", "packet() -> 63", "run(2)").out(0, 1, 0, -1, -1, 1)
            .then("remove(0) -> 64", "out(0,0) -> 1", "run(2)").times(5, "out(0,#) -> NONE").then("out(1,0) -> 2",
                "out(64,0) -> 2");
    }

    static void promise22_out_thoseThatAreNotOutDontCountAmongThe64() {
        gone(64).times(40, "packet()").then("out(0,0) -> 0", "byteAt(0,0) -> 0", "run(1) -> 0", "out(0,0) -> 0",
            "run(1) -> 1", "out(0,0) -> NONE", "out(1,0) -> 0", "byteAt(1,0) -> 1", "run(100) -> 39", "out(39,0) -> NONE",
            "out(40,0) -> 0", "byteAt(40,0) -> 40");
    }

    static void promise22_out_farBehind128Operations() {
        gone(140).then("out(75,0) -> NONE").out(76, 0, 0, 0, 2, 96).then("byteAt(76,0) -> 76", "byteAt(139,0) -> 139",
            "out(140,0) -> NONE");
    }

    static void promise23_byteAt_noSuchByte() {
        new Run(LAID).sends(0, "FF0080").then("run(2)").each("byteAt(0,#) -> NONE", 3, -1, 4, 60, 64, MIN, MAX)
            .then("byteAt(0,0) -> 255", "byteAt(0,1) -> 0", "byteAt(0,2) -> 128");
    }

    static void promise23_byteAt_all60Bytes() {
        new Run(LAID).sends(0, "FF".repeat(60)).then("run(2)").bytes(0, "FF".repeat(60));
    }

    static void promise23_byteAt_anEmptyPacket() {
        new Run(LAID).sends(0, "AABB").then("packet()", "run(9)", "byteAt(1,0) -> NONE", "byteAt(1,-1) -> NONE");
    }

    static void promise23_byteAt_noSuchOperation() {
        new Run(LAID).sends(0, "AA").then("run(2)").each("byteAt(#,0) -> NONE", 1, -1, 64, 128, -128, MIN, MAX);
    }

    static void promise23_byteAt_notOutYet() {
        new Run(TWO_STAGES).sends(0, "AA").then("byteAt(0,0) -> NONE", "run(1)", "byteAt(0,0) -> NONE", "run(1)",
            "byteAt(0,0) -> NONE", "run(1)", "byteAt(0,0) -> 0xAA");
    }

    static void promise23_byteAt_droppedOrRejected() {
        new Run(TALLY).sends(1, "09").sends(2, "07").sends(3, "05").then("run(9)", "byteAt(1,0) -> NONE",
            "byteAt(2,0) -> NONE", "byteAt(3,0) -> 5");
    }

    static void promise23_byteAt_ofAnEntry() {
        new Run(TALLY, "remove(0)", "run(9)", "byteAt(0,0) -> NONE", "byteAt(1,0) -> NONE");
    }

    static void promise23_byteAt_noLongerOneOfTheLatest64() {
        gone(65).then("byteAt(0,0) -> NONE", "byteAt(1,0) -> 1", "byteAt(1,1) -> 0", "byteAt(1,2) -> NONE");
    }

    static void promise23_byteAt_ofAnEntryInThePlaceOfAPacket() {
        Run run = new Run("field(8)", "action()", "table(0,-1,0,1,0)", LAID);
        for (int round = 0; round < 4; round++) {
            run.then("feed(-1,-1,-1,-1,-1)", "end(20)").times(39, "packet()").then("run(40)");
        }
        run.times(12, "remove(0)").then("run(20)", "count(3) -> 168", "byteAt(155,0) -> NONE", "out(156,0) -> 2",
            "byteAt(156,0) -> NONE", "out(156,3) -> NONE", "byteAt(117,0) -> 255");
    }

    static void promise24_word_anOperationIsInAStage() {
        new Run(TALLY).sends(1, "05").then("word(0,5) -> 0", "run(1)", "word(0,5) -> ISE", "run(1)", "word(0,5) -> 1");
        new Run(TWO_STAGES, "packet()", "run(1)", "word(0,0) -> ISE", "run(1)", "word(0,0) -> ISE", "run(1)",
            "word(0,0) -> 0");
    }

    static void promise24_word_thisFirst() {
        new Run(TWO_STAGES, "packet()", "run(1)", "word(4,0) -> ISE", "word(-1,0) -> ISE", "word(0,16) -> ISE",
            "word(0,-1) -> ISE");
    }

    static void promise24_word_anEntryInAStage() {
        new Run(TALLY, "remove(0)", "run(1)", "word(0,0) -> ISE", "entries(0) -> ISE", "run(1)", "word(0,0) -> 0");
    }

    static void promise24_word_operationsInLineAlone() {
        new Run(TWO_STAGES).times(40, "packet()").then("word(0,0) -> 0", "entries(0) -> NONE");
    }

    /** Every word of every array is 9. */
    private static Run filled() {
        Run run = new Run("field(4)", "state(0,-1,-1,-1,-1)", "action()").times(4, "doing(0,7,#,0,9)")
            .then("table(0,-1,0,1,0)", "apply(0)", "lay()");
        for (int i = 0; i < 16; i++) {
            run.then("feed(" + (i << 28) + ",0,0,0,0)", "end(1)", "packet()");
        }
        return run.then("run(20) -> 16");
    }

    static void promise24_word_noSuchArray() {
        filled().each("word(#,0) -> 0", 4, -1, MIN, MAX).each("word(#,15) -> 0", 4, -1).then("word(3,15) -> 9");
    }

    static void promise24_word_noSuchWord() {
        for (int array = 0; array < 4; array++) {
            filled().each("word(" + array + ",#) -> 0", 16, -1, 17, 31, -16, MIN, MAX);
        }
    }

    static void promise24_word_allWords() {
        Run run = filled();
        for (int array = 0; array < 4; array++) {
            run.times(16, "word(" + array + ",#) -> 9");
        }
    }

    static void promise24_word_beforeItIsLaid() {
        new Run("word(0,0) -> 0", "word(3,15) -> 0", "word(4,0) -> 0", "word(0,16) -> 0");
    }

    static void promise25_entries_anOperationIsInAStage() {
        new Run(TALLY, "entries(0) -> 1").sends(1, "05").then("entries(0) -> 1", "run(1)", "entries(0) -> ISE", "run(1)",
            "entries(0) -> 1");
    }

    static void promise25_entries_thisFirst() {
        new Run(TWO_STAGES, "packet()", "run(1)", "entries(0) -> ISE", "entries(-1) -> ISE", "entries(8) -> ISE");
    }

    static void promise25_entries_noSuchTable() {
        new Run("entries(0) -> NONE", TALLY).each("entries(#) -> NONE", 1, -1, 7, 8, MIN, MAX).then("entries(0) -> 1");
    }

    static void promise25_entries_none() {
        new Run("field(8)", "action()", "table(0,-1,0,1,0)", "entries(0) -> 0", LAID, "entries(0) -> 0");
    }

    static void promise25_entries_thatAreStillInLine() {
        new Run("field(8)", "action()", "table(0,-1,0,1,0)", LAID, "key(1,255,0,0)", "insert(0,0,0,0,0)",
            "entries(0) -> 0", "run(2)", "entries(0) -> 1", "remove(0)", "entries(0) -> 1", "run(2)", "entries(0) -> 0");
    }

    static void promise25_entries_ofTheEighthTable() {
        new Run("field(8)", "action()").times(8, "table(0,-1,0,1,0)").then(LAID, "key(1,255,0,0)", "insert(7,0,0,0,0)",
            "run(2)", "entries(7) -> 1").times(7, "entries(#) -> 0");
    }

    static void promise26_count_anotherWhat() {
        new Run().each("count(#) -> NONE", -1, 6, 7, MIN, MAX).then(LAID).each("count(#) -> NONE", -1, 6, MIN, MAX);
    }

    static void promise26_count_nothingYet() {
        new Run().counts(0, 0, 0, 0, 0, 0).then(LAID).counts(0, 0, 0, 0, 0, 1);
    }

    static void promise26_count_stagesIfItIsNotLaid() {
        new Run("field(8)", "test(0,0,0,1)", "count(5) -> 0", "lay() -> IAE", "count(5) -> 0", LAID, "count(5) -> 1",
            "lay() -> ISE", "count(5) -> 1");
    }

    static void promise26_count_aFullLine() {
        new Run(LAID).times(40, "packet()").counts(40, 40, 0, 0, 0, 1).then("packet() -> ISE").counts(40, 40, 0, 0, 0, 1)
            .then("run(1)").counts(40, 39, 1, 0, 1, 1).then("run(1)").counts(40, 38, 1, 1, 2, 1);
    }

    static void promise26_count_allKindsOfOperations() {
        new Run(TALLY).counts(1, 0, 0, 1, 2, 1).then("insert(0,0,1,0,0)", "remove(0)").sends(3, "07").sends(4, "09")
            .sends(5, "05").counts(6, 5, 0, 1, 2, 1).then("run(100) -> 5").counts(6, 0, 0, 6, 102, 1);
    }

    static void promise26_count_cyclesThatWereRefused() {
        new Run("run(1) -> ISE", LAID, "run(101) -> IAE", "run(-1) -> IAE", "run(0) -> 0", "count(4) -> 0", "run(100)",
            "run(100)", "count(4) -> 200");
    }
}
