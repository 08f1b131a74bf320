/** Promises 1 and 2: nothing is there at first, and nothing is left behind clear(). */
public final class NewAndClearTests {
    private static final String SMALL = "field(8) -> 0; state(0,-1,-1,-1,-1) -> 0; action() -> 0";

    public static void main(String[] args) {
        Promises.test(NewAndClearTests.class, 1, 2);
    }

    static void promise01_newObject_noField() {
        new Run("state(0,-1,-1,-1,-1) -> IOOBE", "state(-1,-1,-1,-1,0) -> IOOBE", "test(0,0,0,1) -> IOOBE",
            "action() -> 0", "doing(0,0,0,0,0) -> IOOBE", "doing(0,7,0,0,0) -> IOOBE", "table(0,-1,0,1,0) -> IOOBE",
            "field(8) -> 0");
    }

    static void promise01_newObject_noState() {
        new Run("choice(0,0,0,-1) -> IOOBE", "otherwise(0,-1) -> IOOBE", "lay() -> IAE", "fault(0) -> 1",
            "fault(1) -> 0", "state(-1,-1,-1,-1,-1) -> 0");
    }

    static void promise01_newObject_noAction() {
        new Run("doing(0,6,0,0,0) -> IOOBE", "field(8)", "table(0,-1,0,1,0) -> IOOBE", "table(0,-1,0,0,0) -> IOOBE",
            "action() -> 0");
    }

    static void promise01_newObject_noTable() {
        new Run("apply(0) -> IOOBE", "insert(0,0,0,0,0) -> IOOBE", "remove(0) -> IOOBE", "entries(0) -> NONE", SMALL,
            "table(0,-1,0,1,0) -> 0");
    }

    static void promise01_newObject_noStep() {
        new Run("stage(0) -> NONE", "state(-1,-1,-1,-1,-1)", "lay() -> 1", "stage(0) -> NONE");
        new Run(SMALL, "test(0,0,0,1) -> 0");
    }

    static void promise01_newObject_isNotLaid() {
        new Run("count(5) -> 0", "packet() -> ISE", "run(0) -> ISE", "run(1) -> ISE", "state(-1,-1,-1,-1,-1) -> 0",
            "lay() -> 1");
    }

    static void promise01_newObject_noOperation() {
        new Run().counts(0, 0, 0, 0, 0, 0).times(5, "out(0,#) -> NONE").then("out(-1,0) -> NONE", "byteAt(0,0) -> NONE",
            "state(-1,-1,-1,-1,-1)", "lay()", "run(1) -> 0", "packet() -> 0");
    }

    static void promise01_newObject_noFault() {
        new Run("fault(0) -> 0", "fault(1) -> NONE");
    }

    static void promise01_newObject_emptyTape() {
        new Run("end(0) -> 0", "end(1) -> 1");
    }

    static void promise01_newObject_bytesReadyAreZero() {
        new Run("state(-1,-1,-1,-1,-1)", "lay()", "end(20) -> 20", "packet() -> 0", "run(2) -> 1")
            .bytes(0, "00".repeat(20));
    }

    static void promise01_newObject_arraysAreZero() {
        Run run = new Run();
        for (int array = 0; array < 4; array++) {
            run.times(16, "word(" + array + ",#) -> 0");
        }
    }

    static void promise01_newObject_keyIsZero() {
        new Run(SMALL, "doing(0,5,0,0,0)", "table(0,-1,2,1,0)", "apply(0)", "lay()", "insert(0,0,0,7,0) -> 0")
            .sends(1, "FF").then("run(9) -> 2", "out(0,1) -> 0", "out(1,2) -> 7");
    }

    static void promise01_newObject_isApartFromOthers() {
        new Run(SMALL, "doing(0,7,0,0,5)", "table(0,-1,2,1,0)", "apply(0)", "lay()", "key(1,255,0,0)", "end(3)",
            "packet()", "feed(-1,-1,-1,-1,-1)", "run(9)", "word(0,0) -> 5");
        new Run("end(1) -> 1", "word(0,0) -> 0").counts(0, 0, 0, 0, 0, 0).then(SMALL, "table(0,-1,2,1,0) -> 0",
            "lay() -> 1", "packet() -> 0", "insert(0,0,0,0,0) -> 1", "run(9) -> 2", "entries(0) -> 1").bytes(0, "00");
    }

    static void promise02_clear_newObject() {
        new Run("clear() -> nothing").counts(0, 0, 0, 0, 0, 0).then("fault(0) -> 0", "fault(1) -> NONE", SMALL);
    }

    static void promise02_clear_twice() {
        new Run(SMALL, "lay()", "clear() -> nothing", "clear() -> nothing", SMALL, "lay() -> 1");
    }

    static void promise02_clear_allFieldsTaken() {
        new Run().times(16, "field(8) -> #").then("field(8) -> ISE", "clear()", "state(0,-1,-1,-1,-1) -> IOOBE",
            "field(4) -> 0", "state(1,-1,-1,-1,-1) -> IOOBE").times(15, "field(4)").then("field(4) -> ISE");
    }

    static void promise02_clear_widthsAreNew() {
        new Run("field(8)", "field(8)", "clear()", "field(4)", "field(4)", "state(0,1,-1,-1,-1)", "lay()").sends(0, "5A")
            .then("run(2)").out(0, 0, 0, 0, 1, 1);
    }

    static void promise02_clear_allStatesTaken() {
        new Run("field(8)").times(8, "state(0,-1,-1,-1,-1) -> #; otherwise(#,-2)").then("state(0,-1,-1,-1,-1) -> ISE",
            "clear()", "otherwise(0,-1) -> IOOBE").times(8, "state(-1,-1,-1,-1,-1) -> #")
            .then("state(-1,-1,-1,-1,-1) -> ISE", "lay() -> 1", "packet()", "run(2)", "out(0,1) -> 0");
    }

    static void promise02_clear_allCasesTaken() {
        new Run("field(8)", "state(0,-1,-1,-1,0)").times(4, "choice(0,#,255,-2)").then("choice(0,9,255,-2) -> ISE",
            "clear()", "field(8)", "state(0,-1,-1,-1,0) -> 0").times(4, "choice(0,7,255,-2)")
            .then("choice(0,9,255,-2) -> ISE", "lay()").sends(0, "00").then("run(2)", "out(0,1) -> 0");
    }

    static void promise02_clear_allActionsAndDoingsTaken() {
        new Run(SMALL, "doing(0,4,0,5,0)", "doing(0,4,0,6,0)", "doing(0,4,0,7,0)", "doing(0,6,0,0,0)",
            "doing(0,6,0,0,0) -> ISE").times(15, "action()").then("action() -> ISE", "clear()",
            "doing(0,6,0,0,0) -> IOOBE", SMALL, "table(0,-1,0,1,0)", "apply(0)", "lay()").sends(0, "00").then("run(2)")
            .out(0, 0, 0, 0, 1, 1);
        new Run(SMALL).times(4, "doing(0,6,0,0,0)").then("clear()", SMALL).times(4, "doing(0,6,0,0,0)")
            .then("doing(0,6,0,0,0) -> ISE").times(15, "action()").then("action() -> ISE");
    }

    static void promise02_clear_allTablesTaken() {
        new Run(SMALL).times(8, "table(0,-1,0,1,0) -> #").then("table(0,-1,0,1,0) -> ISE", "clear()", SMALL,
            "apply(0) -> IOOBE", "entries(0) -> NONE").times(8, "table(0,-1,0,1,0) -> #")
            .then("table(0,-1,0,1,0) -> ISE");
    }

    static void promise02_clear_allEntriesTaken() {
        String table = "table(0,-1,0,1,0) -> 0; apply(0); lay()";
        new Run(SMALL, "doing(0,5,0,0,0)", table).times(20, "key(#,255,0,0); insert(0,0,0,9,0)")
            .then("run(100) -> 20", "entries(0) -> 20", "clear()", SMALL, "doing(0,5,0,0,0)", table, "entries(0) -> 0")
            .sends(0, "03").then("run(2)", "out(0,2) -> 0").times(20, "key(#,255,0,0); insert(0,0,0,9,0)")
            .then("run(100) -> 20", "entries(0) -> 20", "out(20,1) -> 0");
    }

    static void promise02_clear_allStepsTaken() {
        new Run(SMALL).times(16, "test(0,0,0,16) -> #").then("test(0,0,0,16) -> ISE", "clear()", "stage(0) -> NONE",
            SMALL, "lay() -> 1", "stage(0) -> NONE", "clear()", SMALL).times(16, "test(0,0,0,16) -> #")
            .then("test(0,0,0,16) -> ISE");
    }

    static void promise02_clear_whatWasLaid() {
        new Run(SMALL, "test(0,0,0,1)", "test(0,0,0,2)", "lay() -> 2", "field(8) -> ISE", "clear()", "count(5) -> 0",
            "stage(0) -> NONE", "packet() -> ISE", "run(0) -> ISE", SMALL, "field(8) -> 1", "lay() -> 1");
    }

    static void promise02_clear_theStagesOfTables() {
        new Run(SMALL, "table(0,-1,0,1,0)", "test(0,0,0,1)", "test(0,0,0,2)", "apply(0)", "lay() -> 3", "clear()", SMALL,
            "table(0,-1,0,1,0)", "lay() -> 1", "key(1,255,0,0)", "insert(0,0,0,0,0)", "run(2) -> 1", "out(0,1) -> 0",
            "entries(0) -> 1");
    }

    static void promise02_clear_aFault() {
        new Run(SMALL, "test(0,0,0,0)", "lay() -> IAE", "fault(0) -> 3", "fault(1) -> 0", "clear()", "fault(0) -> 0",
            "fault(1) -> NONE");
    }

    static void promise02_clear_theTape() {
        new Run("feed(-1,-1,-1,-1,-1)", "end(20) -> 20", "clear()", "end(0) -> 0", "state(-1,-1,-1,-1,-1)", "lay()",
            "end(2) -> 2", "packet()", "run(2)").bytes(0, "0000");
        new Run().times(3, "end(20)").then("end(1) -> NONE", "clear()", "end(20) -> 20");
    }

    static void promise02_clear_theBytesThatAreReady() {
        new Run("feed(-1,-1,-1,-1,-1)", "clear()", "state(-1,-1,-1,-1,-1)", "lay()", "end(20) -> 20", "packet()",
            "run(2)").bytes(0, "00".repeat(20));
    }

    static void promise02_clear_aFullLine() {
        new Run("state(-1,-1,-1,-1,-1)", "lay()").times(40, "packet() -> #").then("packet() -> ISE", "clear()")
            .counts(0, 0, 0, 0, 0, 0).then("state(-1,-1,-1,-1,-1)", "lay()", "run(9) -> 0")
            .times(40, "packet() -> #").then("packet() -> ISE").counts(40, 40, 0, 0, 9, 1);
    }

    static void promise02_clear_operationsInStages() {
        new Run(SMALL, "test(0,0,0,1)", "test(0,0,0,2)", "lay() -> 2", "packet()", "packet()", "run(2)", "count(2) -> 2",
            "word(0,0) -> ISE", "entries(0) -> ISE", "clear()", "count(2) -> 0", "word(0,0) -> 0", "entries(0) -> NONE",
            SMALL, "test(0,0,0,1)", "test(0,0,0,2)", "lay() -> 2", "run(100) -> 0").counts(0, 0, 0, 0, 100, 2);
    }

    static void promise02_clear_operationsThatAreOut() {
        new Run("state(-1,-1,-1,-1,-1)", "lay()").sends(0, "12").then("run(2) -> 1", "byteAt(0,0) -> 0x12", "clear()")
            .times(5, "out(0,#) -> NONE").then("byteAt(0,0) -> NONE", "count(3) -> 0", "state(-1,-1,-1,-1,-1)", "lay()",
            "packet() -> 0", "out(0,0) -> NONE", "run(2) -> 1").out(0, 0, 0, 0, 0, 1);
    }

    static void promise02_clear_cycles() {
        new Run("state(-1,-1,-1,-1,-1)", "lay()", "run(100)", "count(4) -> 100", "clear()", "count(4) -> 0",
            "state(-1,-1,-1,-1,-1)", "lay()", "packet()", "run(2)", "count(4) -> 2", "out(0,4) -> 1");
    }

    static void promise02_clear_arrays() {
        new Run("field(8)", "state(-1,-1,-1,-1,-1)").then("action()").times(4, "doing(0,7,#,0,9)")
            .then("table(0,-1,0,1,0)", "apply(0)", "lay()", "packet()", "run(2)").times(4, "word(#,0) -> 9")
            .then("clear()").times(4, "word(#,0) -> 0");
    }

    static void promise02_clear_theKey() {
        new Run("key(5,255,6,255)", "clear()", SMALL, "field(8)", "table(0,1,10,1,0)", "table(0,-1,0,1,0)", "lay()",
            "insert(0,0,0,0,0) -> 0", "insert(1,0,0,0,0) -> 1", "key(0,0,0,0)", "remove(0) -> 2", "run(9) -> 3")
            .out(0, 1, 0).out(1, 1, 1).out(2, 2, 0);
    }
}
