/** Promises 18 to 20: keys, and entries that come and go. */
public final class EntryTests {
    private static final int MIN = Integer.MIN_VALUE;
    private static final int MAX = Integer.MAX_VALUE;
    private static final String BYTE = "field(8) -> 0; state(0,-1,-1,-1,-1) -> 0";
    /** Two bytes, and an action by which the PORT is DATUM 0. */
    private static final String TWO = "field(8); field(8); state(0,1,-1,-1,-1); action() -> 0; doing(0,5,0,0,0)";

    public static void main(String[] args) {
        Promises.test(EntryTests.class, 18, 20);
    }

    /** A table of one key of 8 bits, whose action has the entry's first DATUM as PORT. */
    private static Run table(int how) {
        return new Run(BYTE, "action()", "doing(0,5,0,0,0)", "table(0,-1," + how + ",1,0)", "apply(0)", "lay() -> 1");
    }

    private static void mask(int how, String mask, boolean taken) {
        table(how).then("key(-1," + mask + ",0,77)", "insert(0,0,0,5,0) -> 0", "run(2)").out(0, 1, taken ? 0 : 1, -1, -1, 1)
            .then("entries(0) -> " + (taken ? 1 : 0));
    }

    static void promise18_key_zeroAtFirst() {
        table(2).then("insert(0,0,0,7,0)").sends(1, "55").then("run(9)", "out(0,1) -> 0", "out(1,2) -> 7");
        table(0).then("insert(0,0,0,7,0)", "run(9)", "out(0,1) -> 1", "entries(0) -> 0");
    }

    static void promise18_key_theLatestCounts() {
        table(0).then("key(1,255,0,0) -> nothing", "key(2,255,0,0)", "insert(0,0,0,7,0)").sends(1, "01").sends(2, "02")
            .then("run(9)", "out(1,2) -> 0", "out(2,2) -> 7");
    }

    static void promise18_key_stays() {
        new Run(BYTE, "action()", "table(0,-1,0,1,0)", "table(0,-1,0,1,0)", "key(1,255,0,0)", "lay()",
            "insert(0,0,0,0,0)", "insert(1,0,0,0,0)", "insert(0,0,0,0,0)", "remove(0)", "remove(0)", "run(9)")
            .out(0, 1, 0).out(1, 1, 0).out(2, 1, 1).out(3, 2, 0).out(4, 2, 1).then("entries(0) -> 0", "entries(1) -> 1");
    }

    static void promise18_key_isThatOfTheCallNotOfTheStage() {
        table(0).then("key(1,255,0,0)", "insert(0,0,0,7,0)", "key(2,255,0,0)", "insert(0,0,0,8,0)", "key(1,255,0,0)",
            "remove(0)", "key(3,255,0,0)").sends(3, "01").sends(4, "02").sends(5, "03").then("run(20)").out(2, 2, 0)
            .then("out(3,2) -> 0", "out(4,2) -> 8", "out(5,2) -> 0");
    }

    static void promise18_key_ofGCountsOnlyIfThereIsOne() {
        table(0).then("key(1,255,3,4)", "insert(0,0,0,7,0)", "key(1,255,9,255)", "insert(0,0,0,8,0)", "remove(0)",
            "key(2,255,-1,0)", "insert(0,0,0,9,0)").sends(4, "02").then("run(9)").out(0, 1, 0).out(1, 1, 1).out(2, 2, 0)
            .out(3, 1, 0).then("out(4,2) -> 9");
        new Run(TWO, "table(0,1,0,1,0)", "apply(0)", "lay()", "key(1,255,2,255)", "insert(0,0,0,7,0)", "key(1,255,3,255)",
            "insert(0,0,0,8,0)", "key(1,255,4,15)", "insert(0,0,0,9,0)").sends(3, "0102").sends(4, "0103").sends(5, "0104")
            .then("run(9)").out(0, 1, 0).out(1, 1, 0).out(2, 1, 1).then("out(3,2) -> 7", "out(4,2) -> 8", "out(5,2) -> 0");
    }

    static void promise18_key_isCutToTheField() {
        table(0).then("key(0x1F5,0xFFFF,0,0)", "insert(0,0,0,7,0)", "key(-1,-1,0,0)", "insert(0,0,0,8,0)").sends(2, "F5")
            .sends(3, "FF").then("run(9)", "out(0,1) -> 0", "out(1,1) -> 0", "out(2,2) -> 7", "out(3,2) -> 8");
    }

    static void promise18_key_beforeItIsLaid() {
        new Run("key(1,255,0,0)", BYTE, "action()", "table(0,-1,0,1,0)", "lay()", "insert(0,0,0,0,0)", "run(2)",
            "out(0,1) -> 0");
    }

    static void promise18_key_isNotChangedByARefusedEntry() {
        table(0).then("key(1,255,0,0)", "insert(9,0,0,0,0) -> IOOBE", "remove(9) -> IOOBE", "insert(0,0,5,0,0) -> 0",
            "insert(0,0,0,7,0) -> 1").sends(2, "01").then("run(9)", "out(0,1) -> 1", "out(1,1) -> 0", "out(2,2) -> 7");
    }

    static void promise19_insert_noSuchTable() {
        table(0).each("insert(#,0,0,0,0) -> IOOBE", 1, 7, 8, -1, MIN, MAX).then("count(0) -> 0",
            "insert(0,0,0,0,0) -> 0");
    }

    static void promise19_insert_notLaid() {
        new Run(BYTE, "action()", "table(0,-1,0,1,0)", "insert(0,0,0,0,0) -> ISE", "count(0) -> 0", "lay()",
            "insert(0,0,0,0,0) -> 0");
    }

    static void promise19_insert_40InLine() {
        table(0).then("key(0,255,0,0)").times(40, "insert(0,0,0,0,0) -> #").then("insert(0,0,0,0,0) -> ISE",
            "packet() -> ISE", "remove(0) -> ISE").counts(40, 40, 0, 0, 0, 1).then("run(1) -> 0",
            "insert(0,0,0,0,0) -> 40", "insert(0,0,0,0,0) -> ISE", "run(100) -> 41", "entries(0) -> 1");
    }

    static void promise19_insert_theTableIsLookedAtFirst() {
        new Run("insert(0,0,0,0,0) -> IOOBE", BYTE, "action()", "table(0,-1,0,1,0)", "insert(1,0,0,0,0) -> IOOBE");
        table(0).times(40, "packet()").then("insert(1,0,0,0,0) -> IOOBE", "insert(-1,0,0,0,0) -> IOOBE");
    }

    static void promise19_insert_exactHasAllOnes() {
        mask(0, "255", true);
        mask(0, "-1", true);
        mask(0, "0x1FF", true);
        mask(0, "0", false);
        mask(0, "254", false);
        mask(0, "127", false);
        mask(0, "0xFF00", false);
    }

    static void promise19_insert_prefixHasOnesFromTheTop() {
        for (int ones = 0; ones <= 8; ones++) {
            mask(1, "" + (255 << 8 - ones & 255), true);
        }
        mask(1, "-1", true);
        mask(1, "0xFFFFFFE0", true);
        mask(1, "0xF00", true);
        mask(1, "1", false);
        mask(1, "0x7F", false);
        mask(1, "0xEF", false);
        mask(1, "0xFD", false);
        mask(1, "0xA0", false);
        mask(1, "0x40", false);
    }

    static void promise19_insert_maskedHasAnyOnes() {
        for (int mask : new int[] {0, 1, 128, 0x5A, 255, -1, MIN, MAX}) {
            mask(2, "" + mask, true);
        }
    }

    static void promise19_insert_masksOfAFieldOf32Bits() {
        Run run = new Run("field(32)", "state(0,-1,-1,-1,-1)", "action()", "table(0,-1,1,1,0)", "lay()");
        int[] masks = {0, -1, MIN, -2, 1, MAX, MIN + 1, 0x40000000};
        for (int mask : masks) {
            run.then("key(0," + mask + ",0,0)", "insert(0,0,0,0,0)");
        }
        run.then("run(20)");
        for (int i = 0; i < masks.length; i++) {
            run.then("out(" + i + ",1) -> " + (i < 4 ? 0 : 1));
        }
        new Run("field(32)", "state(0,-1,-1,-1,-1)", "action()", "table(0,-1,0,1,0)", "lay()", "key(5,-1,0,0)",
            "insert(0,0,0,0,0)", "key(5,MAX,0,0)", "insert(0,0,0,0,0)", "run(9)", "out(0,1) -> 0", "out(1,1) -> 1");
    }

    static void promise19_insert_masksOfAFieldOf1Bit() {
        Run run = new Run("field(1)", "state(0,-1,-1,-1,-1)", "action()").times(3, "table(0,-1,#,1,0)");
        run.then("lay()", "key(1,1,0,0)").times(3, "insert(#,0,0,0,0)").then("key(1,0,0,0)")
            .times(3, "insert(#,0,0,0,0)").then("run(20)", "out(0,1) -> 0", "out(1,1) -> 0", "out(2,1) -> 0",
                "out(3,1) -> 1", "out(4,1) -> 0", "out(5,1) -> 0");
    }

    static void promise19_insert_masksOfTheSecondKey() {
        int[] hows = {0, 4, 8};
        boolean[][] taken = {{true, false, false, false}, {true, true, true, false}, {true, true, true, true}};
        int[] masks = {255, 0, 0xF0, 0x0F};
        for (int i = 0; i < 3; i++) {
            for (int j = 0; j < 4; j++) {
                new Run(TWO, "table(0,1," + hows[i] + ",1,0)", "lay()", "key(1,255,1," + masks[j] + ")",
                    "insert(0,0,0,0,0)", "run(2)", "out(0,1) -> " + (taken[i][j] ? 0 : 1));
            }
        }
    }

    static void promise19_insert_oneBadMaskOfTwoIsEnough() {
        new Run(TWO, "table(0,1,0,1,0)", "lay()", "key(1,255,1,254)", "insert(0,0,0,0,0)", "key(1,254,1,255)",
            "insert(0,0,0,0,0)", "key(1,255,1,255)", "insert(0,0,0,0,0)", "run(9)", "out(0,1) -> 1", "out(1,1) -> 1",
            "out(2,1) -> 0", "entries(0) -> 1");
    }

    static void promise19_insert_anActionThatTheTableMayNotDo() {
        Run run = new Run(BYTE, "action()", "action()", "action()", "table(0,-1,2,5,0)", "lay()", "key(1,255,0,0)");
        int[] actions = {1, 3, 15, 16, 31, -1, 32, 34, -30, MAX, MIN};
        for (int action : actions) {
            run.then("insert(0,0," + action + ",0,0)");
        }
        run.then("insert(0,0,2,0,0)", "run(20)", "entries(0) -> 1");
        for (int i = 0; i < actions.length; i++) {
            run.out(i, 1, 1, -1, -1, i + 1);
        }
        run.out(actions.length, 1, 0, -1, -1, actions.length + 1);
    }

    static void promise19_insert_theSameValuesAndMasks() {
        table(2).then("key(0x15,0xF0,0,0)", "insert(0,0,0,5,0)", "insert(0,9,0,6,0)").sends(2, "1F").then("run(9)",
            "out(0,1) -> 0", "out(1,1) -> 1", "out(2,2) -> 5", "entries(0) -> 1");
    }

    static void promise19_insert_theSameWhereTheMaskHasOnes() {
        table(2).then("key(0x15,0xF0,0,0)", "insert(0,0,0,5,0)", "key(0x1A,0xF0,0,0)", "insert(0,0,0,6,0)",
            "key(0x11A,0xFFF0,0,0)", "insert(0,0,0,7,0)", "run(9)", "out(0,1) -> 0", "out(1,1) -> 1", "out(2,1) -> 1",
            "entries(0) -> 1");
    }

    static void promise19_insert_theSameValuesWithOtherMasks() {
        table(2).then("key(0x10,0xF0,0,0)", "insert(0,0,0,5,0)", "key(0x10,0xF8,0,0)", "insert(0,0,0,6,0)",
            "key(0x20,0xF0,0,0)", "insert(0,0,0,7,0)", "run(9)", "out(0,1) -> 0", "out(1,1) -> 0", "out(2,1) -> 0",
            "entries(0) -> 3");
    }

    static void promise19_insert_theSameInAnotherTable() {
        new Run(BYTE, "action()", "table(0,-1,0,1,0)", "table(0,-1,0,1,0)", "lay()", "key(1,255,0,0)",
            "insert(0,0,0,0,0)", "insert(1,0,0,0,0)", "run(9)", "out(0,1) -> 0", "out(1,1) -> 0");
    }

    static void promise19_insert_all20Taken() {
        table(0).times(20, "key(#,255,0,0); insert(0,0,0,100,0) -> #").then("key(20,255,0,0)", "insert(0,0,0,100,0) -> 20")
            .sends(21, "13").sends(22, "14").then("run(100)", "out(19,1) -> 0", "out(20,1) -> 1", "out(21,2) -> 100",
                "out(22,2) -> 0", "entries(0) -> 20");
    }

    static void promise19_insert_roomAgainBehindARemove() {
        table(0).times(20, "key(#,255,0,0); insert(0,0,0,100,0)").then("run(100)", "key(7,255,0,0)", "remove(0) -> 20",
            "key(20,255,0,0)", "insert(0,0,0,101,0) -> 21", "key(21,255,0,0)", "insert(0,0,0,102,0) -> 22")
            .sends(23, "07").sends(24, "14").sends(25, "13").then("run(20)", "out(20,1) -> 0", "out(21,1) -> 0",
                "out(22,1) -> 1", "out(23,2) -> 0", "out(24,2) -> 101", "out(25,2) -> 100", "entries(0) -> 20");
    }

    static void promise19_insert_eachTableHas20() {
        new Run(BYTE, "action()", "table(0,-1,0,1,0)", "table(0,-1,0,1,0)", "lay()")
            .times(20, "key(#,255,0,0); insert(0,0,0,0,0); insert(1,0,0,0,0)").then("run(100)", "entries(0) -> 20",
                "entries(1) -> 20");
    }

    static void promise19_insert_refusedWhileThereIsNone() {
        table(0).then("key(1,0,0,0)", "insert(0,0,0,5,0)").sends(1, "01").then("run(9)", "out(0,1) -> 1", "out(1,2) -> 0",
            "entries(0) -> 0");
    }

    static void promise19_insert_moreOnesInThePrefixMaskAreBetter() {
        table(1).then("key(0,0,0,0)", "insert(0,MAX,0,1,0)", "key(0x50,0xF0,0,0)", "insert(0,0,0,2,0)",
            "key(0x58,0xF8,0,0)", "insert(0,MIN,0,3,0)", "key(0x5F,0xFF,0,0)", "insert(0,-1,0,4,0)")
            .sends(4, "5F").sends(5, "5E").sends(6, "57").sends(7, "60").then("run(20)", "out(4,2) -> 4", "out(5,2) -> 3",
                "out(6,2) -> 2", "out(7,2) -> 1");
        table(1).then("key(0x5F,0xFF,0,0)", "insert(0,MIN,0,4,0)", "key(0,0,0,0)", "insert(0,MAX,0,1,0)")
            .sends(2, "5F").then("run(20)", "out(2,2) -> 4");
    }

    static void promise19_insert_prefixOfTheSecondKey() {
        new Run(TWO, "table(0,1,6,1,0)", "apply(0)", "lay()", "key(1,255,0x50,0xF0)", "insert(0,9,0,1,0)",
            "key(0,0,0x58,0xF8)", "insert(0,-9,0,2,0)", "key(1,1,0x58,0xF8)", "insert(0,-8,0,3,0)").sends(3, "015F")
            .sends(4, "0157").sends(5, "025F").sends(6, "0257").then("run(20)", "out(3,2) -> 3", "out(4,2) -> 1",
                "out(5,2) -> 2", "out(6,2) -> 0");
    }

    static void promise19_insert_onesOfOtherMasksDontCount() {
        table(2).then("key(0x50,0xFF,0,0)", "insert(0,0,0,1,0)", "key(0x50,0xF0,0,0)", "insert(0,1,0,2,0)")
            .sends(2, "50").then("run(9)", "out(2,2) -> 2");
        new Run(TWO, "table(0,1,9,1,0)", "apply(0)", "lay()", "key(0x50,0xF0,0,0)", "insert(0,5,0,1,0)",
            "key(0x50,0xF0,7,0xFF)", "insert(0,4,0,2,0)").sends(2, "5007").then("run(9)", "out(2,2) -> 1");
        withTwoKeys(2, "0xF0,7,0xFF", "0xFF,7,0xFF");
        withTwoKeys(8, "0xFF,7,0x0F", "0xFF,7,0xFF");
        withTwoKeys(10, "0xF0,7,0xFF", "0xFF,7,0xFF");
        withTwoKeys(10, "0xFF,7,0x0F", "0xFF,7,0xFF");
        withTwoKeys(6, "0xF0,7,0xFC", "0xFF,7,0xFC");
    }

    /** Of two entries for 50 07, told from the first mask on, that of greater priority is the better one. */
    private static void withTwoKeys(int how, String greater, String other) {
        String one = "key(0x50," + greater + "); insert(0,5,0,1,0)";
        String two = "key(0x50," + other + "); insert(0,4,0,2,0)";
        for (String both : new String[] {one + ";" + two, two + ";" + one}) {
            new Run(TWO, "table(0,1," + how + ",1,0)", "apply(0)", "lay()", both).sends(2, "5007")
                .then("run(9)", "out(0,1) -> 0", "out(1,1) -> 0", "out(2,2) -> 1");
        }
    }

    static void promise19_insert_onesOfThePrefixMaskNotOfTheValue() {
        table(1).then("key(0,0x80,0,0)", "insert(0,9,0,1,0)", "key(0,0xF0,0,0)", "insert(0,0,0,2,0)", "key(0,0,0,0)",
            "insert(0,MAX,0,3,0)").sends(3, "00").sends(4, "70").sends(5, "80").then("run(9)", "out(3,2) -> 2",
                "out(4,2) -> 1", "out(5,2) -> 3");
        new Run(TWO, "table(0,1,4,1,0)", "apply(0)", "lay()", "key(1,255,0,0x80)", "insert(0,9,0,1,0)", "key(1,255,0,0xF0)",
            "insert(0,0,0,2,0)").sends(2, "0100").sends(3, "0170").then("run(9)", "out(2,2) -> 2", "out(3,2) -> 1");
    }

    static void promise19_insert_keysOfOtherWidths() {
        String[] widths = {"field(4); field(12)", "field(12); field(4)"};
        String[] masks = {"0xF,0xBCD,0xFFF", "0xFFF,0xBCD,0xF"};
        String[] found = {"5BCD", "0A5D"};
        for (int i = 0; i < 2; i++) {
            new Run(widths[i], "state(0,1,-1,-1,-1)", "action()", "doing(0,5,0,0,0)", "table(0,1,0,1,0)", "apply(0)", "lay()",
                "key(0xA5," + masks[1 - i] + ")", "insert(0,0,0,1,0)", "key(0xA5," + masks[i] + ")", "insert(0,0,0,2,0)",
                "key(0xA5,-1,0xFBCD,-1)", "insert(0,0,0,3,0)").sends(3, found[i]).then("run(9)", "out(0,1) -> 1",
                    "out(1,1) -> 0", "out(2,1) -> 1", "out(3,2) -> 2", "entries(0) -> 1");
        }
    }

    static void promise19_insert_theSameValuesAndMasksOfTwoKeys() {
        new Run(TWO, "table(0,1,10,1,0)", "lay()", "key(1,3,4,12)", "insert(0,0,0,0,0)", "insert(0,0,0,0,0)",
            "key(1,3,4,13)", "insert(0,0,0,0,0)", "key(1,3,8,12)", "insert(0,0,0,0,0)", "key(1,7,4,12)",
            "insert(0,0,0,0,0)", "key(2,3,4,12)", "insert(0,0,0,0,0)", "key(1,3,4,12)", "remove(0)", "remove(0)", "run(20)",
            "out(0,1) -> 0", "out(1,1) -> 1", "out(2,1) -> 0", "out(3,1) -> 0", "out(4,1) -> 0", "out(5,1) -> 0",
            "out(6,1) -> 0", "out(7,1) -> 1", "entries(0) -> 4");
    }

    static void promise19_insert_greaterPriorityIsBetter() {
        int[] priorities = {MIN, -1, 0, 1, MAX};
        for (int i = 0; i < priorities.length; i++) {
            for (int j = 0; j < priorities.length; j++) {
                table(2).then("key(0x50,0xF0,0,0)", "insert(0," + priorities[i] + ",0,1,0)", "key(0x05,0x0F,0,0)",
                    "insert(0," + priorities[j] + ",0,2,0)").sends(2, "55").then("run(9)",
                        "out(2,2) -> " + (i >= j ? 1 : 2));
            }
        }
    }

    static void promise19_insert_theOneThatCameFirst() {
        table(2).then("key(0x50,0xF0,0,0)", "insert(0,3,0,1,0)", "key(0x05,0x0F,0,0)", "insert(0,3,0,2,0)",
            "key(0x55,0xFF,0,0)", "insert(0,3,0,3,0)").sends(3, "55").then("key(0x50,0xF0,0,0)", "remove(0) -> 4")
            .sends(5, "55").then("insert(0,3,0,4,0) -> 6").sends(7, "55").then("run(20)", "out(3,2) -> 1",
                "out(5,2) -> 2", "out(7,2) -> 2");
    }

    static void promise19_insert_aMaskWithoutOnesMatchesAll() {
        table(2).then("key(77,0,0,0)", "insert(0,0,0,5,0)").sends(1, "00").sends(2, "FF").then("run(9)", "out(1,2) -> 5",
            "out(2,2) -> 5");
    }

    static void promise19_insert_aKeyOf32Bits() {
        Run run = new Run("field(32)", "state(0,-1,-1,-1,-1)", "action()", "doing(0,5,0,0,0)", "table(0,-1,1,1,0)",
            "apply(0)", "lay()", "key(-1,-1,0,0)", "insert(0,0,0,1,0)", "key(MIN,MIN,0,0)", "insert(0,0,0,2,0)",
            "key(0,MIN,0,0)", "insert(0,0,0,3,0)");
        run.sends(3, "FFFFFFFF").sends(4, "80000000").sends(5, "FFFFFFFE").sends(6, "7FFFFFFF").sends(7, "00000000")
            .then("run(20)", "out(3,2) -> 1", "out(4,2) -> 2", "out(5,2) -> 2", "out(6,2) -> 3", "out(7,2) -> 3");
    }

    static void promise19_insert_theSixteenthAction() {
        Run run = new Run(BYTE).times(16, "action(); doing(#,4,0,#,0)").then("table(0,-1,0,0xFFFF,14)", "apply(0)",
            "lay()").times(16, "key(#,255,0,0); insert(0,0,#,0,0)").sends(16, "00").sends(17, "0F").sends(18, "10");
        run.then("run(30)", "out(15,1) -> 0", "out(16,2) -> 0", "out(17,2) -> 15", "out(18,2) -> 14");
    }

    static void promise19_insert_bothKeysMustMatch() {
        new Run(TWO, "table(0,1,10,1,0)", "apply(0)", "lay()", "key(1,255,2,255)", "insert(0,0,0,5,0)").sends(1, "0102")
            .sends(2, "0103").sends(3, "0002").then("run(9)", "out(1,2) -> 5", "out(2,2) -> 0", "out(3,2) -> 0");
    }

    static void promise19_insert_inItsTableStageInItsTurn() {
        new Run(BYTE, "action()", "doing(0,5,0,0,0)", "table(0,-1,0,1,0)", "test(0,3,0,1)", "test(0,3,0,2)", "apply(0)",
            "lay() -> 3", "key(1,255,0,0)").sends(0, "01").then("insert(0,0,0,7,0) -> 1").sends(2, "01")
            .then("remove(0) -> 3").sends(4, "01").then("insert(0,0,0,8,0) -> 5").sends(6, "01").then("run(10) -> 7",
                "out(0,2) -> 0", "out(2,2) -> 7", "out(4,2) -> 0", "out(6,2) -> 8");
    }

    static void promise19_insert_betweenPacketsInEachOfSixTables() {
        for (boolean turned : new boolean[] {false, true}) {
            Run run = new Run().times(7, "field(8)").then("state(0,1,2,3,-1)", "state(4,5,6,-1,-1)", "otherwise(0,1)");
            for (int i = 0; i < 6; i++) {
                run.then("action()", "doing(" + i + ",3," + (i + 1) + ",0,0)", "table(0,-1,0," + (1 << i) + "," + i + ")");
            }
            for (int i = 0; i < 6; i++) {
                run.then("apply(" + (turned ? 5 - i : i) + ")");
            }
            run.then("lay() -> 2", "key(1,255,0,0)").sends(0, "01FFFFFFFFFFFF");
            for (int i = 0; i < 6; i++) {
                run.then("insert(" + i + ",0," + i + ",0x77,0) -> " + (2 * i + 1)).sends(2 * i + 2, "01FFFFFFFFFFFF");
            }
            run.then("run(20) -> 13");
            for (int i = 0; i <= 6; i++) {
                run.bytes(2 * i, "01" + "77".repeat(i) + "00".repeat(6 - i));
            }
        }
    }

    static void promise19_insert_toATableWithoutAStep() {
        new Run(BYTE, "action()", "table(0,-1,0,1,0)", "test(0,0,0,1)", "test(0,0,0,2)", "lay() -> 2", "key(1,255,0,0)",
            "insert(0,0,0,0,0)", "insert(0,0,0,0,0)", "remove(0)", "run(9) -> 3").out(0, 1, 0, -1, -1, 2)
            .out(1, 1, 1, -1, -1, 3).out(2, 2, 0, -1, -1, 4).then("entries(0) -> 0");
    }

    static void promise20_remove_noSuchTable() {
        table(0).each("remove(#) -> IOOBE", 1, 7, 8, -1, MIN, MAX).then("count(0) -> 0", "remove(0) -> 0");
    }

    static void promise20_remove_notLaid() {
        new Run(BYTE, "action()", "table(0,-1,0,1,0)", "remove(0) -> ISE", "count(0) -> 0", "lay()", "remove(0) -> 0");
    }

    static void promise20_remove_40InLine() {
        table(0).times(40, "remove(0) -> #").then("remove(0) -> ISE", "insert(0,0,0,0,0) -> ISE", "packet() -> ISE")
            .counts(40, 40, 0, 0, 0, 1).then("run(1)", "remove(0) -> 40", "remove(0) -> ISE", "run(100) -> 41");
    }

    static void promise20_remove_theTableIsLookedAtFirst() {
        new Run("remove(0) -> IOOBE", BYTE, "action()", "table(0,-1,0,1,0)", "remove(1) -> IOOBE");
        table(0).times(40, "packet()").then("remove(1) -> IOOBE", "remove(-1) -> IOOBE");
    }

    static void promise20_remove_fromATableWithoutEntries() {
        table(2).then("remove(0)", "run(2)").out(0, 2, 1, -1, -1, 1).then("entries(0) -> 0");
    }

    static void promise20_remove_twice() {
        table(2).then("key(1,255,0,0)", "insert(0,0,0,0,0)", "remove(0)", "remove(0)", "run(9)").out(1, 2, 0, -1, -1, 2)
            .out(2, 2, 1, -1, -1, 3).then("entries(0) -> 0");
    }

    static void promise20_remove_anotherValueOrMask() {
        table(2).then("key(0x10,0xF0,0,0)", "insert(0,0,0,0,0)", "key(0x10,0xF8,0,0)", "remove(0)", "key(0x10,0x70,0,0)",
            "remove(0)", "key(0x20,0xF0,0,0)", "remove(0)", "run(9)", "out(1,1) -> 1", "out(2,1) -> 1", "out(3,1) -> 1",
            "entries(0) -> 1");
    }

    static void promise20_remove_theSameWhereTheMaskHasOnes() {
        table(2).then("key(0x10,0xF0,0,0)", "insert(0,0,0,0,0)", "key(0x31F,0xFFF0,9,9)", "remove(0)", "run(9)",
            "out(1,1) -> 0", "entries(0) -> 0");
    }

    static void promise20_remove_aMaskThatIsNone() {
        table(0).then("key(1,255,0,0)", "insert(0,0,0,0,0)", "key(1,127,0,0)", "remove(0)", "run(9)", "out(1,1) -> 1",
            "entries(0) -> 1");
    }

    static void promise20_remove_fromAnotherTable() {
        new Run(BYTE, "action()", "table(0,-1,0,1,0)", "table(0,-1,0,1,0)", "lay()", "key(1,255,0,0)",
            "insert(0,0,0,0,0)", "remove(1)", "run(9)", "out(1,1) -> 1", "entries(0) -> 1", "entries(1) -> 0");
    }

    static void promise20_remove_theOthersStayInTheirOrder() {
        for (int gone = 0; gone < 3; gone++) {
            String[] keys = {"key(0x50,0xF0,0,0)", "key(0x05,0x0F,0,0)", "key(0x55,0xFF,0,0)"};
            Run run = table(2);
            for (int i = 0; i < 3; i++) {
                run.then(keys[i], "insert(0,0,0," + (i + 1) + ",0)");
            }
            run.then(keys[gone], "remove(0) -> 3").sends(4, "55").then(keys[gone == 0 ? 1 : 0], "remove(0) -> 5")
                .sends(6, "55").then("run(20)", "out(4,2) -> " + (gone == 0 ? 2 : 1),
                    "out(6,2) -> " + (gone == 2 ? 2 : 3), "entries(0) -> 1");
        }
    }

    static void promise20_remove_all20OneByOne() {
        table(0).times(20, "key(#,255,0,0); insert(0,0,0,5,0)").then("run(100)", "entries(0) -> 20")
            .times(20, "key(#,255,0,0); remove(0)").then("run(100)", "entries(0) -> 0", "out(39,1) -> 0")
            .sends(40, "05").then("run(2)", "out(40,2) -> 0");
    }
}
