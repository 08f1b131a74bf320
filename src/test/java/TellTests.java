/** Promises 3 to 11: what is told before it is laid, and what is refused there. */
public final class TellTests {
    private static final int MIN = Integer.MIN_VALUE;
    private static final int MAX = Integer.MAX_VALUE;
    /** A state that reads nothing, so that all can be laid. */
    private static final String READER = "state(-1,-1,-1,-1,-1) -> 0";
    private static final String BYTE = "field(8) -> 0; state(0,-1,-1,-1,-1) -> 0";
    private static final String ONE_STEP = "table(0,-1,0,1,0) -> 0; apply(0) -> 0; lay() -> 1";
    private static final String TWO = "field(8); field(8); action() -> 0; action() -> 1";

    public static void main(String[] args) {
        Promises.test(TellTests.class, 3, 11);
    }

    static void promise03_field_widthTooSmall() {
        new Run().each("field(#) -> IAE", 0, -1, -32, MIN).then("field(1) -> 0");
    }

    static void promise03_field_widthTooLarge() {
        new Run().each("field(#) -> IAE", 33, 64, MAX).then("field(32) -> 0");
    }

    static void promise03_field_wordsAreCutToEachWidth() {
        for (int width = 1; width <= 32; width++) {
            new Run("field(" + width + ") -> 0", "state(0,-1,-1,-1,-1)", "action()", "doing(0,0,0,-1,0)", ONE_STEP)
                .sends(0, "00000000").then("run(2)").bytes(0, String.format("%08X", -1 << (32 - width)));
        }
    }

    static void promise03_field_laterDoingsSeeTheWordThatWasCut() {
        cutThenCopied("C00C", "0,2,0xABC,0");
        cutThenCopied("4004", "1,2,0,0");
        cutThenCopied("9009", "2,2,0,5");
        cutThenCopied("B00B", "3,2,0,0");
        cutThenCopied("D00D", "3,2,1,0");
        cutThenCopied("E00E", "7,1,0,0xABE", "8,2,0,1");
    }

    /** Field 2, of 4 bits, gets a longer word, and field 3, of 12 bits, becomes, or grows by, what field 2 is then. */
    private static void cutThenCopied(String want, String... doings) {
        for (String later : new String[] {"1,3,2,0", "2,3,2,0"}) {
            Run run = new Run("field(16)", "field(16)", "field(4)", "field(12)", "state(0,1,2,3,-1)", "action()");
            for (String doing : doings) {
                run.then("doing(0," + doing + ")");
            }
            run.then("doing(0," + later + ")", ONE_STEP, "key(0x1234,-1,0,0)", "insert(0,0,0,0xAAB,0xCCD)")
                .sends(1, "123456780000").then("run(9)").bytes(1, "12345678" + want);
        }
    }

    static void promise03_field_all16Taken() {
        new Run().times(16, "field(8) -> #").then("field(1) -> ISE", "field(32) -> ISE", "state(15,-1,-1,-1,-1) -> 0",
            "state(16,-1,-1,-1,-1) -> IOOBE");
    }

    static void promise03_field_whenLaid() {
        new Run(READER, "field(8) -> 0", "lay()", "field(8) -> ISE");
    }

    static void promise03_field_theWidthIsLookedAtFirst() {
        new Run(READER, "lay()", "field(0) -> IAE", "field(33) -> IAE");
        new Run().times(16, "field(8)").then("field(0) -> IAE", "field(33) -> IAE");
    }

    static void promise03_field_refusedTakesNoNumber() {
        new Run("field(0) -> IAE", "field(33) -> IAE", "field(4) -> 0", "field(-1) -> IAE", "field(4) -> 1");
    }

    static void promise03_field_mayComeBehindAFault() {
        new Run("field(8) -> 0", "lay() -> IAE", "field(8) -> 1");
    }

    static void promise04_state_firstFieldIsNotThere() {
        new Run("field(8)", "field(8)").each("state(#,-1,-1,-1,-1) -> IOOBE", 2, 15, 16, -2, MIN, MAX)
            .then("state(1,-1,-1,-1,-1) -> 0");
    }

    static void promise04_state_secondFieldIsNotThere() {
        new Run("field(8)", "field(8)").each("state(0,#,-1,-1,-1) -> IOOBE", 2, 15, 16, -2, MIN, MAX)
            .then("state(0,1,-1,-1,-1) -> 0");
    }

    static void promise04_state_thirdFieldIsNotThere() {
        new Run("field(8)", "field(8)").each("state(0,1,#,-1,-1) -> IOOBE", 2, 15, 16, -2, MIN, MAX)
            .then("state(0,0,1,-1,-1) -> 0");
    }

    static void promise04_state_fourthFieldIsNotThere() {
        new Run("field(8)", "field(8)").each("state(0,1,0,#,-1) -> IOOBE", 2, 15, 16, -2, MIN, MAX)
            .then("state(0,0,0,1,-1) -> 0");
    }

    static void promise04_state_fieldThatChoosesIsNotThere() {
        new Run("field(8)", "field(8)").each("state(0,-1,-1,-1,#) -> IOOBE", 2, 15, 16, -2, MIN, MAX)
            .each("state(-1,-1,-1,-1,#) -> IOOBE", 2, -2).then("state(0,-1,-1,-1,1) -> 0");
    }

    static void promise04_state_behindTheFirstNoneNothingIsRead() {
        String[] states = {"-1,9,-7,1", "0,-1,9,-7", "0,1,-1,99"};
        for (int taken = 0; taken < 3; taken++) {
            String bytes = "112233".substring(0, 2 * taken);
            new Run().times(4, "field(8)").then("state(" + states[taken] + ",-1) -> 0", "lay()").sends(0, bytes)
                .sends(1, bytes + "44").then("run(9)").out(0, 0, 0, 0, taken, 1).bytes(1, bytes + "44");
        }
    }

    static void promise04_state_fourFieldsAreRead() {
        new Run().times(4, "field(8)").then("state(0,1,2,3,-1)", "lay()").sends(0, "11223344").sends(1, "112233")
            .then("run(9)", "out(0,1) -> 0", "out(1,1) -> 2");
    }

    static void promise04_state_fieldsAreReadInTheirOrder() {
        new Run().times(4, "field(8)").then("state(3,1,0,2,-1)", "action()", "doing(0,0,1,0xEE,0)", ONE_STEP)
            .sends(0, "1122334455").then("run(2)").bytes(0, "11EE334455");
    }

    static void promise04_state_theHighestBitFirst() {
        for (int from = 0; from < 2; from++) {
            // B5 is 101 10101: 5 and 21.
            new Run("field(3)", "field(5)", "field(8)", "state(0,1,2,-1,-1)", "action()",
                "doing(0,1,2," + from + ",0)", ONE_STEP).sends(0, "B500").then("run(2)")
                .bytes(0, from == 0 ? "B505" : "B515");
        }
    }

    static void promise04_state_noFieldAtAll() {
        new Run("state(-1,-1,-1,-1,0) -> IOOBE", READER, "lay() -> 1").sends(0, "").sends(1, "AB").then("run(9)")
            .out(0, 0, 0, 0, 0, 1).out(1, 0, 0, 0, 1, 2).bytes(1, "AB");
    }

    static void promise04_state_aFieldTwiceIsTaken() {
        new Run("field(8)", "state(0,0,-1,-1,-1) -> 0", "lay() -> 1").sends(0, "1122").then("run(2)", "out(0,1) -> 2");
    }

    static void promise04_state_acceptAtFirst() {
        new Run("field(8)", "state(0,-1,-1,-1,0)", "choice(0,1,255,-2)", "state(-1,-1,-1,-1,-1)", "otherwise(1,-2)",
            "lay()").sends(0, "02").then("run(2)", "out(0,1) -> 0");
    }

    static void promise04_state_choosingByNoneIsAlwaysOtherwise() {
        new Run(BYTE, "choice(0,0,0,-2)", "lay()").sends(0, "00").then("run(2)", "out(0,1) -> 0");
        new Run(BYTE, "choice(0,0,0,-1)", "otherwise(0,-2)", "lay()").sends(0, "00").then("run(2)", "out(0,1) -> 2");
    }

    static void promise04_state_choosingByAFieldThatWasNotRead() {
        new Run("field(8)", "field(8)", "state(0,-1,-1,-1,1)", "choice(0,0,255,-1)", "otherwise(0,-2)", "lay()")
            .sends(0, "77").then("run(2)", "out(0,1) -> 0");
    }

    static void promise04_state_all8Taken() {
        new Run("field(8)").times(8, "state(0,-1,-1,-1,-1) -> #").then("state(0,-1,-1,-1,-1) -> ISE",
            "state(-1,-1,-1,-1,-1) -> ISE", "otherwise(7,-1) -> nothing", "otherwise(8,-1) -> IOOBE");
    }

    static void promise04_state_whenLaid() {
        new Run(BYTE, "lay()", "state(0,-1,-1,-1,-1) -> ISE", "otherwise(1,-1) -> IOOBE");
    }

    static void promise04_state_fieldsAreLookedAtFirst() {
        new Run(BYTE, "lay()", "state(1,-1,-1,-1,-1) -> IOOBE", "state(-1,-1,-1,-1,1) -> IOOBE");
        new Run("field(8)").times(8, "state(0,-1,-1,-1,-1)").then("state(0,0,0,1,-1) -> IOOBE",
            "state(0,-1,-1,-1,-2) -> IOOBE");
    }

    static void promise04_state_refusedTakesNoNumber() {
        new Run("field(8)", "state(1,-1,-1,-1,-1) -> IOOBE", "state(0,-1,-1,-1,1) -> IOOBE", "state(0,-1,-1,-1,0) -> 0");
    }

    static void promise05_choice_noSuchState() {
        new Run(BYTE).each("choice(#,0,0,-1) -> IOOBE", 1, 7, 8, -1, -2, MIN, MAX)
            .then("choice(0,0,0,-1) -> nothing");
    }

    static void promise05_choice_toIsTooSmallOrTooLarge() {
        new Run(BYTE).each("choice(0,0,0,#) -> IOOBE", -3, 8, MIN, MAX).then("choice(0,0,0,-2) -> nothing",
            "choice(0,0,0,7) -> nothing");
    }

    static void promise05_choice_toMayBeEachFromRejectTo7() {
        for (int to = -2; to <= 7; to++) {
            new Run(BYTE, "choice(0,0,0," + to + ") -> nothing");
        }
    }

    static void promise05_choice_allFourTaken() {
        new Run(BYTE, "state(0,-1,-1,-1,-1)").times(4, "choice(0,0,0,-1) -> nothing").then("choice(0,0,0,-1) -> ISE")
            .times(4, "choice(1,0,0,-1) -> nothing").then("choice(1,0,0,-1) -> ISE");
    }

    static void promise05_choice_theFifthIsNotTaken() {
        new Run("field(8)", "state(0,-1,-1,-1,0)").times(4, "choice(0,#,255,-2)").then("choice(0,4,255,-2) -> ISE",
            "lay()").sends(0, "03").sends(1, "04").then("run(9)", "out(0,1) -> 2", "out(1,1) -> 0");
    }

    static void promise05_choice_whenLaid() {
        new Run("field(8)", "state(0,-1,-1,-1,0)", "lay()", "choice(0,0,0,-2) -> ISE").sends(0, "00")
            .then("run(2)", "out(0,1) -> 0");
    }

    static void promise05_choice_theStateIsLookedAtFirst() {
        new Run(BYTE).times(4, "choice(0,0,0,-1)").then("choice(0,0,0,8) -> IOOBE", "choice(1,0,0,0) -> IOOBE", "lay()",
            "choice(0,0,0,-3) -> IOOBE", "choice(-1,0,0,0) -> IOOBE");
    }

    static void promise05_choice_theFirstThatIsAlike() {
        Run run = new Run("field(8)", "state(0,-1,-1,-1,0)", "choice(0,0x50,0xF0,-1)", "choice(0,0x57,0xFF,-2)",
            "choice(0,0x60,0xFF,-1)", "choice(0,0,0,-2)", "otherwise(0,-1)", "lay()");
        run.sends(0, "57").sends(1, "60").sends(2, "61").sends(3, "00").then("run(9)", "out(0,1) -> 0", "out(1,1) -> 0",
            "out(2,1) -> 2", "out(3,1) -> 2");
    }

    static void promise05_choice_theValueCountsOnlyWhereTheMaskHasOnes() {
        new Run("field(8)", "state(0,-1,-1,-1,0)", "choice(0,0x5F,0xF0,-2)", "lay()").sends(0, "50").sends(1, "5F")
            .sends(2, "4F").then("run(9)", "out(0,1) -> 2", "out(1,1) -> 2", "out(2,1) -> 0");
    }

    static void promise05_choice_ofAFieldOf32Bits() {
        new Run("field(32)", "state(0,-1,-1,-1,0)", "choice(0,MIN,-1,-2)", "choice(0,-1,-1,-2)", "lay()")
            .sends(0, "80000000").sends(1, "FFFFFFFF").sends(2, "7FFFFFFF").sends(3, "00000000").then("run(9)",
                "out(0,1) -> 2", "out(1,1) -> 2", "out(2,1) -> 0", "out(3,1) -> 0");
    }

    static void promise05_choice_onesBeyondTheField() {
        new Run("field(8)", "state(0,-1,-1,-1,0)", "choice(0,0x107,-1,-2)", "choice(0,0x08,-1,-2)", "lay()")
            .sends(0, "07").sends(1, "08").then("run(9)", "out(0,1) -> 0", "out(1,1) -> 2");
    }

    static void promise05_choice_onToAState() {
        new Run("field(8)", "field(8)", "state(0,-1,-1,-1,0)", "state(1,-1,-1,-1,-1)", "choice(0,1,255,1)", "lay()")
            .sends(0, "01").sends(1, "02").sends(2, "0100").then("run(9)", "out(0,1) -> 2", "out(1,1) -> 0",
                "out(2,1) -> 0");
    }

    static void promise06_otherwise_noSuchState() {
        new Run(BYTE).each("otherwise(#,-2) -> IOOBE", 1, 7, 8, -1, -2, MIN, MAX).then("lay()").sends(0, "00")
            .then("run(2)", "out(0,1) -> 0");
    }

    static void promise06_otherwise_toIsTooSmallOrTooLarge() {
        new Run(BYTE, "otherwise(0,-2)").each("otherwise(0,#) -> IOOBE", -3, 8, MIN, MAX).then("lay()").sends(0, "00")
            .then("run(2)", "out(0,1) -> 2");
    }

    static void promise06_otherwise_toMayBeEachFromRejectTo7() {
        new Run(BYTE).each("otherwise(0,#) -> nothing", -2, -1, 0, 1, 2, 3, 4, 5, 6, 7);
    }

    static void promise06_otherwise_theLatestCounts() {
        new Run(BYTE, "otherwise(0,-2)", "otherwise(0,-1)", "lay()").sends(0, "00").then("run(2)", "out(0,1) -> 0");
        new Run(BYTE, "otherwise(0,-1)", "otherwise(0,-2)", "lay()").sends(0, "00").then("run(2)", "out(0,1) -> 2");
    }

    static void promise06_otherwise_behindFourCases() {
        new Run("field(8)", "state(0,-1,-1,-1,0)").times(4, "choice(0,#,255,-1)").then("otherwise(0,-2) -> nothing",
            "lay()").sends(0, "03").sends(1, "04").then("run(9)", "out(0,1) -> 0", "out(1,1) -> 2");
    }

    static void promise06_otherwise_onToAState() {
        new Run("field(8)", "field(8)", "state(0,-1,-1,-1,-1)", "state(1,-1,-1,-1,-1)", "otherwise(0,1)", "lay()")
            .sends(0, "01").sends(1, "0102").then("run(9)", "out(0,1) -> 2", "out(1,1) -> 0");
    }

    static void promise06_otherwise_whenLaid() {
        new Run(BYTE, "lay()", "otherwise(0,-2) -> ISE").sends(0, "00").then("run(2)", "out(0,1) -> 0");
    }

    static void promise06_otherwise_theStateIsLookedAtFirst() {
        new Run(BYTE, "lay()", "otherwise(1,0) -> IOOBE", "otherwise(0,8) -> IOOBE", "otherwise(0,-3) -> IOOBE");
    }

    static void promise07_action_all16Taken() {
        new Run().times(16, "action() -> #").then("action() -> ISE", "action() -> ISE", "doing(15,6,0,0,0) -> nothing",
            "doing(16,6,0,0,0) -> IOOBE");
    }

    static void promise07_action_whenLaid() {
        new Run(READER, "action() -> 0", "lay()", "action() -> ISE");
    }

    static void promise07_action_hasNoDoings() {
        new Run(BYTE, "action()", ONE_STEP).sends(0, "1234").then("run(2)").out(0, 0, 0, 0, 2, 1).bytes(0, "1234");
    }

    static void promise08_doing_noSuchKind() {
        new Run(BYTE, "action()").each("doing(0,#,0,0,0) -> IAE", -1, 9, 10, MIN, MAX)
            .times(4, "doing(0,8,0,0,0) -> nothing");
    }

    static void promise08_doing_theKindFirst() {
        new Run("doing(0,9,0,0,0) -> IAE", "doing(-1,-1,9,9,9) -> IAE", BYTE, "action()", "doing(0,9,99,99,99) -> IAE")
            .times(4, "doing(0,6,0,0,0)").then("doing(0,9,0,0,0) -> IAE", "lay()", "doing(0,9,0,0,0) -> IAE",
                "doing(1,-1,0,0,0) -> IAE");
    }

    static void promise08_doing_noSuchAction() {
        new Run(BYTE, "action()").each("doing(#,6,0,0,0) -> IOOBE", 1, 15, 16, -1, MIN, MAX)
            .then("doing(0,6,0,0,0) -> nothing");
    }

    static void promise08_doing_fieldXIsNotThere() {
        for (int kind : new int[] {0, 1, 2, 3, 8}) {
            new Run("field(8)", "field(8)", "action()").each("doing(0," + kind + ",#,0,0) -> IOOBE", 2, 16, -1, -2, MIN, MAX)
                .then("doing(0," + kind + ",1,0,0) -> nothing");
        }
    }

    static void promise08_doing_fieldYIsNotThere() {
        for (int kind : new int[] {1, 2, 7, 8}) {
            new Run("field(8)", "field(8)", "action()").each("doing(0," + kind + ",0,#,0) -> IOOBE", 2, 16, -1, -2, MIN, MAX)
                .then("doing(0," + kind + ",0,1,0) -> nothing");
        }
    }

    static void promise08_doing_noSuchDatum() {
        for (int kind : new int[] {3, 5}) {
            new Run("field(8)", "action()").each("doing(0," + kind + ",0,#,0) -> IOOBE", 2, -1, MIN, MAX)
                .then("doing(0," + kind + ",0,0,0) -> nothing", "doing(0," + kind + ",0,1,0) -> nothing");
        }
    }

    static void promise08_doing_noSuchArray() {
        new Run("field(8)", "action()").each("doing(0,7,#,0,0) -> IOOBE", 4, -1, MIN, MAX)
            .each("doing(0,8,0,0,#) -> IOOBE", 4, -1, MIN, MAX).then("doing(0,7,0,0,0) -> nothing",
                "doing(0,7,3,0,0) -> nothing", "doing(0,8,0,0,0) -> nothing", "doing(0,8,0,0,3) -> nothing");
    }

    static void promise08_doing_whatIsNotUsedMayBeAnyInt() {
        new Run("field(8)").times(3, "action()").then("doing(0,0,0,MIN,99)", "doing(0,1,0,0,MAX)", "doing(0,2,0,0,MIN)",
            "doing(0,3,0,1,-9)", "doing(1,4,99,MIN,-9)", "doing(1,5,-9,1,99)", "doing(1,6,-9,MAX,MIN)",
            "doing(1,7,3,0,MIN)");
        new Run("action()", "doing(0,4,0,0,0) -> nothing", "doing(0,5,0,0,0) -> nothing", "doing(0,6,0,0,0) -> nothing");
    }

    static void promise08_doing_allFourTaken() {
        new Run(BYTE, "action()", "action()").times(4, "doing(0,6,0,0,0) -> nothing").then("doing(0,6,0,0,0) -> ISE")
            .times(4, "doing(1,6,0,0,0) -> nothing").then("doing(1,6,0,0,0) -> ISE");
    }

    static void promise08_doing_theFifthIsNotDone() {
        new Run(BYTE, "action()").times(4, "doing(0,2,0,0,1)").then("doing(0,6,0,0,0) -> ISE", ONE_STEP).sends(0, "00")
            .then("run(2)").out(0, 0, 0, 0, 1, 1).bytes(0, "0F");
    }

    static void promise08_doing_whenLaid() {
        new Run(BYTE, "action()", ONE_STEP, "doing(0,6,0,0,0) -> ISE").sends(0, "00").then("run(2)", "out(0,1) -> 0");
    }

    static void promise08_doing_theActionAndItsFieldsBeforeTheState() {
        new Run(BYTE, "action()").times(4, "doing(0,6,0,0,0)").then("doing(0,0,1,0,0) -> IOOBE",
            "doing(1,6,0,0,0) -> IOOBE", "lay()", "doing(0,7,4,0,0) -> IOOBE", "doing(-1,6,0,0,0) -> IOOBE");
    }

    static void promise08_doing_refusedIsNotDone() {
        new Run(BYTE, "action()", "doing(0,0,1,9,0) -> IOOBE", "doing(0,9,0,0,0) -> IAE", "doing(0,5,0,2,0) -> IOOBE",
            "doing(1,6,0,0,0) -> IOOBE").times(4, "doing(0,2,0,0,1) -> nothing").then(ONE_STEP).sends(0, "00")
            .then("run(2)").bytes(0, "0F");
    }

    static void promise08_doing_kind0IsCut() {
        change("0,0,0x1FF,0", "00", "FF");
        change("0,0,-1,0", "00", "FF");
        change("0,0,0x100,0", "77", "00");
    }

    static void promise08_doing_kind1IsCut() {
        Run run = new Run("field(8)", "field(4)", "field(4)", "state(0,1,2,-1,-1)", "action()", "doing(0,1,1,0,0)",
            ONE_STEP);
        run.sends(0, "A59C").then("run(2)").bytes(0, "A55C");
    }

    static void promise08_doing_kind1OfItself() {
        change("1,0,0,0", "A5", "A5");
    }

    static void promise08_doing_kind2WrapsAround() {
        change("2,0,0,0", "80", "00");
        change("2,0,0,1", "FF", "FF");
        change("2,0,0,-1", "00", "FF");
        change("2,0,0,MIN", "01", "02");
        change("2,0,0,MAX", "01", "01");
    }

    static void promise08_doing_kind2WrapsAroundAt32Bits() {
        new Run("field(32)", "state(0,-1,-1,-1,-1)", "action()", "doing(0,2,0,0,1)", ONE_STEP).sends(0, "FFFFFFFF")
            .sends(1, "80000000").sends(2, "7FFFFFFF").then("run(9)").bytes(0, "FFFFFFFF").bytes(1, "00000001")
            .bytes(2, "FFFFFFFF");
    }

    static void promise08_doing_kind3IsCut() {
        for (int datum = 0; datum < 2; datum++) {
            new Run(BYTE, "action()", "doing(0,3,0," + datum + ",0)", ONE_STEP, "key(1,255,0,0)",
                "insert(0,0,0,0x1234,-2)").sends(1, "01").then("run(9)").bytes(1, datum == 0 ? "34" : "FE");
        }
    }

    static void promise08_doing_kinds3And5WithoutAMatch() {
        new Run(BYTE, "action()", "doing(0,4,0,9,0)", "doing(0,5,0,1,0)", "doing(0,3,0,0,0)", ONE_STEP, "key(1,255,0,0)",
            "insert(0,0,0,7,8)").sends(1, "01").sends(2, "02").then("run(9)", "out(1,2) -> 8", "out(2,2) -> 0")
            .bytes(1, "07").bytes(2, "00");
    }

    static void promise08_doing_kind4MayBeAnyInt() {
        for (int port : new int[] {0, -1, -2, 1, MIN, MAX}) {
            new Run(BYTE, "action()", "doing(0,4,99," + port + ",99)", ONE_STEP).sends(0, "00").then("run(2)")
                .out(0, 0, 0, port, 1, 1);
        }
    }

    static void promise08_doing_kind5MayBeAnyInt() {
        for (int port : new int[] {0, -1, -2, 1, MIN, MAX}) {
            new Run(BYTE, "action()", "doing(0,5,0,1,0)", ONE_STEP, "key(0,255,0,0)", "insert(0,0,0,5," + port + ")")
                .sends(1, "00").then("run(9)").out(1, 0, 0, port, 1, 2);
        }
    }

    static void promise08_doing_kind6IsDropped() {
        new Run(BYTE, "action()", "doing(0,6,0,0,0)", "doing(0,4,0,5,0)", "doing(0,7,0,0,3)", ONE_STEP).sends(0, "02")
            .then("run(2)").out(0, 0, 1, -1, -1, 1).then("byteAt(0,0) -> NONE", "word(0,2) -> 3");
    }

    static void promise08_doing_kind7Modulo16() {
        new Run(BYTE, "action()", "doing(0,7,3,0,1)", "doing(0,7,0,0,-1)", ONE_STEP).sends(0, "0F").sends(1, "10")
            .sends(2, "1F").sends(3, "FF").then("run(9)", "word(3,15) -> 3", "word(3,0) -> 1", "word(0,15) -> -3",
                "word(0,0) -> -1", "word(3,1) -> 0", "word(1,15) -> 0", "word(2,15) -> 0");
    }

    static void promise08_doing_kind7ModuloOfAnUnsignedWord() {
        new Run("field(32)", "state(0,-1,-1,-1,-1)", "action()", "doing(0,7,1,0,1)", ONE_STEP).sends(0, "FFFFFFFF")
            .sends(1, "80000003").then("run(9)", "word(1,15) -> 1", "word(1,3) -> 1");
    }

    static void promise08_doing_kind7WrapsAround() {
        new Run(BYTE, "action()", "doing(0,7,0,0,MAX)", "doing(0,7,0,0,1)", "doing(0,7,1,0,MIN)", "doing(0,7,1,0,-1)",
            ONE_STEP).sends(0, "00").then("run(2)", "word(0,0) -> MIN", "word(1,0) -> MAX");
    }

    static void promise08_doing_kind8IsCut() {
        new Run("field(8)", "field(8)", "state(0,1,-1,-1,-1)", "action()", "doing(0,7,2,0,0x1FE)", "doing(0,8,1,0,2)",
            ONE_STEP).sends(0, "1500").sends(1, "2500").sends(2, "F400").then("run(9)").bytes(0, "15FE").bytes(1, "25FC")
            .bytes(2, "F4FE").then("word(2,5) -> 0x3FC", "word(2,4) -> 0x1FE");
    }

    static void promise08_doing_whatIsNotUsedChangesNothing() {
        change("0,0,5,99", "A5", "05");
        change("1,0,0,99", "A5", "A5");
        change("3,0,1,99", "A5", "00");
        change("4,99,0,99", "A5", "A5");
        change("5,99,0,99", "A5", "A5");
        change("7,0,0,99", "A5", "A5");
        new Run(BYTE, "action()", "doing(0,6,0,0,5)", "doing(0,6,99,99,99)", "doing(0,6,-1,-1,-1)", ONE_STEP)
            .sends(0, "02").then("run(2)").out(0, 0, 1, -1, -1, 1).then("word(0,2) -> 0");
    }

    static void promise08_doing_oneAfterTheOther() {
        new Run("field(8)", "field(8)", "state(0,1,-1,-1,-1)", "action()", "doing(0,1,0,1,0)", "doing(0,0,1,9,0)",
            "doing(0,1,1,0,0)", "doing(0,2,0,1,-3)", ONE_STEP).sends(0, "0730").then("run(2)").bytes(0, "5D30");
    }

    /** What one doing makes of a field of 8 bits, which is the table's key, too. */
    private static void change(String doing, String before, String after) {
        new Run(BYTE, "action()", "doing(0," + doing + ")", ONE_STEP).sends(0, before).then("run(2)").bytes(0, after);
    }

    static void promise09_table_firstKeyIsNotThere() {
        new Run(TWO).each("table(#,-1,0,1,0) -> IOOBE", 2, 16, -1, -2, MIN, MAX)
            .each("table(#,0,0,1,0) -> IOOBE", 2, -1, -2).then("table(1,-1,0,1,0) -> 0");
    }

    static void promise09_table_secondKeyIsNotThere() {
        new Run(TWO).each("table(0,#,0,1,0) -> IOOBE", 2, 16, -2, MIN, MAX).then("table(0,1,0,1,0) -> 0");
    }

    static void promise09_table_bothKeysAreOneField() {
        new Run(TWO, "table(0,0,0,1,0) -> IOOBE", "table(1,1,0,1,0) -> IOOBE", "table(1,0,0,1,0) -> 0");
    }

    static void promise09_table_actionsThatAreNotThere() {
        new Run(TWO).each("table(0,1,0,#,0) -> IOOBE", 4, 5, 7, 0x10001, -1, MIN | 1, MAX).then("table(0,1,0,3,0) -> 0");
    }

    static void promise09_table_all16Actions() {
        new Run("field(8)").times(16, "action()").then("table(0,-1,0,0x10000,16) -> IOOBE",
            "table(0,-1,0,0x1FFFF,0) -> IOOBE", "table(0,-1,0,0x80000001,0) -> IOOBE", "table(0,-1,0,0xFFFF,15) -> 0",
            "table(0,-1,0,0x8000,15) -> 1");
    }

    static void promise09_table_noActionAtAll() {
        new Run(TWO, "table(0,1,0,0,0) -> IOOBE", "table(0,1,0,0,-1) -> IOOBE", "table(0,1,0,0,32) -> IOOBE");
    }

    static void promise09_table_theActionWithoutAMatchIsNoneOfThem() {
        new Run(TWO).each("table(0,1,0,1,#) -> IOOBE", 1, 2, -1, 16, 32, -32, MIN, MAX)
            .each("table(0,1,0,2,#) -> IOOBE", 0, 2, 33, -31).then("table(0,1,0,2,1) -> 0");
    }

    static void promise09_table_howOfTwoKeys() {
        new Run(TWO).each("table(0,1,#,1,0) -> IAE", 3, 5, 7, 11, 12, 13, 14, 15, 16, 32, -1, -3, -4, -16, MIN, MAX);
        new Run(TWO).each("table(0,1,#,1,0)", 0, 1, 2, 4, 6, 8, 9, 10).then("table(0,1,0,1,0) -> ISE");
    }

    static void promise09_table_bothByPrefix() {
        new Run(TWO, "table(0,1,5,1,0) -> IAE", "table(0,1,1,1,0) -> 0", "table(0,1,4,1,0) -> 1");
    }

    static void promise09_table_howOfOneKey() {
        new Run(TWO).each("table(0,-1,#,1,0) -> IAE", 3, 4, 5, 6, 7, 8, 9, 10, 16, -1, -4, MIN, MAX)
            .times(3, "table(0,-1,#,1,0) -> #");
    }

    static void promise09_table_all8Taken() {
        new Run(TWO).times(8, "table(0,1,0,1,0) -> #").then("table(0,1,0,1,0) -> ISE", "table(0,-1,2,2,1) -> ISE",
            "apply(7) -> 0", "apply(8) -> IOOBE");
    }

    static void promise09_table_whenLaid() {
        new Run(TWO, READER, "lay()", "table(0,1,0,1,0) -> ISE", "entries(0) -> NONE");
    }

    static void promise09_table_fieldsThenHowThenTheState() {
        new Run(TWO, READER, "table(2,-1,3,1,0) -> IOOBE", "table(0,0,5,1,0) -> IOOBE", "table(0,1,5,4,2) -> IOOBE")
            .times(8, "table(0,1,0,1,0)").then("table(2,-1,0,1,0) -> IOOBE", "table(0,1,3,1,0) -> IAE", "lay()",
                "table(0,1,0,1,1) -> IOOBE", "table(0,-1,4,1,0) -> IAE", "table(0,1,5,1,0) -> IAE");
    }

    static void promise09_table_refusedTakesNoNumber() {
        new Run(TWO, "table(2,-1,0,1,0) -> IOOBE", "table(0,1,5,1,0) -> IAE", "table(0,1,0,1,1) -> IOOBE",
            "table(0,1,0,1,0) -> 0", "table(0,1,3,1,0) -> IAE", "table(0,1,0,1,0) -> 1");
    }

    static void promise09_table_theActionWithoutAMatchIsDone() {
        new Run(BYTE, "action()", "action()", "doing(0,4,0,5,0)", "doing(1,4,0,6,0)", "table(0,-1,0,3,1)", "apply(0)",
            "lay()", "key(1,255,0,0)", "insert(0,0,0,0,0)").sends(1, "01").sends(2, "02").then("run(9)",
                "out(1,2) -> 5", "out(2,2) -> 6");
    }

    static void promise09_table_aKeyThatWasNotReadIs0() {
        new Run(TWO, READER, "doing(1,4,0,6,0)", "table(0,1,0,3,0)", "apply(0)", "lay()", "key(0,255,0,255)",
            "insert(0,0,1,0,0)").sends(1, "0102").then("run(9)", "out(1,2) -> 6");
    }

    static void promise10_apply_noSuchTable() {
        new Run(TWO, "apply(0) -> IOOBE", "table(0,1,0,1,0)").each("apply(#) -> IOOBE", 1, 7, 8, -1, MIN, MAX)
            .then("apply(0) -> 0");
    }

    static void promise10_apply_all16Taken() {
        new Run(TWO, "table(0,1,0,1,0)").times(16, "apply(0) -> #").then("apply(0) -> ISE", "test(0,0,0,16) -> ISE");
    }

    static void promise10_apply_whenLaid() {
        new Run(TWO, READER, "table(0,1,0,1,0)", "lay()", "apply(0) -> ISE", "stage(0) -> NONE");
    }

    static void promise10_apply_theTableIsLookedAtFirst() {
        new Run(TWO, READER, "table(0,1,0,1,0)", "lay()", "apply(1) -> IOOBE", "apply(-1) -> IOOBE");
        new Run(TWO, "table(0,1,0,1,0)").times(16, "apply(0)").then("apply(1) -> IOOBE", "apply(-1) -> IOOBE");
    }

    static void promise10_apply_refusedTakesNoNumber() {
        new Run(TWO, "table(0,1,0,1,0)", "apply(1) -> IOOBE", "apply(0) -> 0", "apply(-1) -> IOOBE", "apply(0) -> 1");
    }

    static void promise10_apply_theEighthTable() {
        new Run(BYTE, "action()", "action()", "doing(1,4,0,9,0)").times(7, "table(0,-1,0,1,0)").then("table(0,-1,0,3,0)",
            "apply(7) -> 0", "lay()", "key(5,255,0,0)", "insert(7,0,1,0,0)").sends(1, "05").sends(2, "06").then("run(9)",
                "out(1,2) -> 9", "out(2,2) -> 0");
    }

    static void promise10_apply_theSixteenthStep() {
        new Run(BYTE, "action()", "doing(0,4,0,9,0)", "action()").times(7, "table(0,-1,0,2,1); apply(#)")
            .times(8, "test(0,0,5,16)").then("table(0,-1,0,1,0) -> 7", "apply(7) -> 15", "lay() -> 11", "stage(15) -> 10")
            .sends(0, "05").sends(1, "06").then("run(20) -> 2", "out(0,2) -> 9", "out(1,2) -> 0", "out(0,4) -> 11",
                "out(1,4) -> 12");
    }

    static void promise11_test_noSuchField() {
        new Run("test(0,0,0,1) -> IOOBE", TWO).each("test(#,0,0,1) -> IOOBE", 2, 16, -1, MIN, MAX)
            .then("test(1,0,0,1) -> 0");
    }

    static void promise11_test_noSuchRelation() {
        new Run(TWO).each("test(0,#,0,1) -> IAE", 4, 5, -1, MIN, MAX).times(4, "test(0,#,0,16) -> #");
    }

    static void promise11_test_toMayBeAnyInt() {
        new Run(TWO).each("test(0,0,0,#)", 0, -1, 16, 17, MIN, MAX).then("test(0,0,0,1) -> 6");
    }

    static void promise11_test_all16Taken() {
        new Run(TWO, "table(0,1,0,1,0)").times(15, "test(0,0,0,16) -> #").then("apply(0) -> 15", "test(0,0,0,16) -> ISE",
            "apply(0) -> ISE");
    }

    static void promise11_test_whenLaid() {
        new Run(TWO, READER, "lay()", "test(0,0,0,1) -> ISE", "stage(0) -> NONE");
    }

    static void promise11_test_theFieldThenTheRelationThenTheState() {
        new Run(TWO, READER, "test(2,4,0,1) -> IOOBE", "test(-1,-1,0,1) -> IOOBE").times(16, "test(0,0,0,16)")
            .then("test(2,0,0,16) -> IOOBE", "test(0,4,0,16) -> IAE");
        new Run(TWO, READER, "lay()", "test(2,0,0,16) -> IOOBE", "test(0,-1,0,16) -> IAE");
    }

    static void promise11_test_refusedTakesNoNumber() {
        new Run(TWO, "test(2,0,0,1) -> IOOBE", "test(0,4,0,1) -> IAE", "test(0,0,0,1) -> 0", "test(0,-1,0,1) -> IAE",
            "test(0,0,0,2) -> 1");
    }

    /** A field of 32 bits that is below, the same as, or above each of some words: PORT 1 if the relation holds. */
    private static void relation(int relation, boolean below, boolean same, boolean above) {
        int[] words = {0, 1, MAX, MIN, -2, -1};
        for (int i = 0; i < words.length; i++) {
            Run run = new Run("field(32)", "state(0,-1,-1,-1,-1)", "action()", "doing(0,4,0,1,0)", "table(0,-1,0,1,0)",
                "test(0," + relation + "," + words[i] + ",2)", "apply(0)", "lay() -> 2");
            for (int j = 0; j < words.length; j++) {
                run.sends(j, String.format("%08X", words[j]));
            }
            run.then("run(20)");
            for (int j = 0; j < words.length; j++) {
                boolean holds = j < i ? below : j == i ? same : above;
                run.then("out(" + j + ",2) -> " + (holds ? 1 : 0));
            }
        }
    }

    static void promise11_test_relation0IsEqual() {
        relation(0, false, true, false);
    }

    static void promise11_test_relation1IsNotEqual() {
        relation(1, true, false, true);
    }

    static void promise11_test_relation2IsBelowUnsigned() {
        relation(2, true, false, false);
    }

    static void promise11_test_relation3IsNotBelowUnsigned() {
        relation(3, false, true, true);
    }

    static void promise11_test_aWordBeyondTheField() {
        int[] holds = {0, 1, 1, 0};
        for (int relation = 0; relation < 4; relation++) {
            new Run(BYTE, "action()", "doing(0,4,0,1,0)", "table(0,-1,0,1,0)", "test(0," + relation + ",256,2)",
                "apply(0)", "lay() -> 2").sends(0, "00").sends(1, "FF").then("run(9)", "out(0,2) -> " + holds[relation],
                    "out(1,2) -> " + holds[relation]);
        }
    }

    static void promise11_test_ofAFieldThatWasNotRead() {
        new Run("field(8)", READER, "action()", "doing(0,4,0,1,0)", "table(0,-1,0,1,0)", "test(0,0,0,2)", "apply(0)",
            "lay()").sends(0, "55").then("run(9)", "out(0,2) -> 1");
    }

    static void promise11_test_onToTheNextStep() {
        new Run(BYTE, "action()", "doing(0,4,0,1,0)", "table(0,-1,0,1,0)", "test(0,0,5,1)", "apply(0)", "lay()")
            .sends(0, "05").sends(1, "06").then("run(9)", "out(0,2) -> 1", "out(1,2) -> 1");
    }

    static void promise11_test_onToALaterStepOrTheEnd() {
        Run run = new Run("field(8)", "field(8)", "state(0,1,-1,-1,-1)")
            .times(4, "action(); doing(#,7,#,1,1)");
        run.then("table(0,-1,0,1,0) -> 0", "table(0,-1,0,2,1) -> 1", "table(0,-1,0,4,2) -> 2", "table(0,-1,0,8,3) -> 3",
            "test(0,0,5,3)", "apply(0)", "apply(1)", "apply(2)", "test(0,3,5,6)", "apply(3)", "lay()");
        run.sends(0, "0501").sends(1, "0402").sends(2, "0603").then("run(20) -> 3");
        int[][] done = {{1, 1, 1, 1}, {0, 0, 1, 0}, {0, 0, 1, 1}};
        for (int packet = 0; packet < 3; packet++) {
            for (int array = 0; array < 4; array++) {
                run.then("word(" + array + "," + (packet + 1) + ") -> " + done[packet][array]);
            }
        }
    }
}
