/** Promises 15 to 17: the bytes that are ready, the tape, and packets that come to the line and are read. */
public final class TapeTests {
    private static final int MIN = Integer.MIN_VALUE;
    private static final int MAX = Integer.MAX_VALUE;
    /** All of a packet is its payload. */
    private static final String READER = "state(-1,-1,-1,-1,-1) -> 0; lay() -> 1";
    private static final String TWENTY = "0x01020304,0x05060708,0x090A0B0C,0x0D0E0F10,0xF1F2F3F4";

    public static void main(String[] args) {
        Promises.test(TapeTests.class, 15, 17);
    }

    static void promise15_feed_allTwentyInTheirOrder() {
        new Run(READER, "feed(" + TWENTY + ") -> nothing", "end(20) -> 20", "packet()", "run(2)")
            .bytes(0, "0102030405060708090A0B0C0D0E0F10F1F2F3F4");
    }

    static void promise15_feed_theHighestByteOfEachFirst() {
        new Run(READER, "feed(0x11223344,0,0,0,0)", "end(1)", "packet()", "feed(0,0,0,0,0x11223344)", "end(20)",
            "packet()", "run(9)").bytes(0, "11").bytes(1, "00".repeat(16) + "11223344");
    }

    static void promise15_feed_aNegativeWord() {
        new Run(READER, "feed(-1,MIN,MAX,-2,0)", "end(16)", "packet()", "run(2)")
            .bytes(0, "FFFFFFFF 80000000 7FFFFFFF FFFFFFFE");
    }

    static void promise15_feed_theLatestIsReady() {
        new Run(READER, "feed(-1,-1,-1,-1,-1)", "feed(0x01000000,0,0,0,0)", "end(5)", "packet()", "run(2)")
            .bytes(0, "0100000000");
    }

    static void promise15_feed_zeroAtFirst() {
        new Run(READER, "end(2) -> 2", "packet()", "run(2)").bytes(0, "0000");
    }

    static void promise15_feed_zeroBehindAnEndThatAnswersANumber() {
        new Run(READER, "feed(-1,-1,-1,-1,-1)", "end(1) -> 1", "end(2) -> 3", "packet()", "run(2)").bytes(0, "FF0000");
    }

    static void promise15_feed_zeroBehindAnEndOfNone() {
        new Run(READER, "feed(-1,-1,-1,-1,-1)", "end(0) -> 0", "end(2) -> 2", "packet()", "run(2)").bytes(0, "0000");
    }

    static void promise15_feed_readyStillBehindAnEndThatAnswersNone() {
        new Run(READER, "feed(" + TWENTY + ")", "end(-1) -> NONE", "end(21) -> NONE", "end(3) -> 3", "packet()", "run(2)")
            .bytes(0, "010203");
        new Run(READER).times(3, "end(20)").then("feed(" + TWENTY + ")", "end(1) -> NONE", "packet() -> 0", "end(2) -> 2",
            "packet() -> 1", "run(9)").bytes(1, "0102");
    }

    static void promise15_feed_readyStillBehindAPacket() {
        new Run(READER, "feed(" + TWENTY + ")", "packet() -> 0", "end(2) -> 2", "packet() -> 1", "run(9)").bytes(0, "")
            .bytes(1, "0102");
    }

    static void promise15_feed_beforeItIsLaid() {
        new Run("feed(" + TWENTY + ")", "state(-1,-1,-1,-1,-1)", "lay()", "end(2)", "packet()", "run(2)").bytes(0, "0102");
    }

    static void promise16_end_tooSmall() {
        new Run(READER).each("end(#) -> NONE", -1, -20, MIN).then("end(0) -> 0");
    }

    static void promise16_end_tooLarge() {
        new Run(READER).each("end(#) -> NONE", 21, 60, MAX).then("end(20) -> 20").each("end(#) -> NONE", 21, MAX)
            .then("end(0) -> 20");
    }

    static void promise16_end_none() {
        new Run(READER, "end(0) -> 0", "end(0) -> 0", "packet()", "run(2)").out(0, 0, 0, 0, 0, 1);
    }

    static void promise16_end_eachNumber() {
        for (int n = 0; n <= 20; n++) {
            String bytes = "0102030405060708090A0B0C0D0E0F10F1F2F3F4".substring(0, 2 * n);
            new Run(READER, "feed(" + TWENTY + ")", "end(" + n + ") -> " + n, "packet()", "run(2)", "out(0,3) -> " + n)
                .bytes(0, bytes);
        }
    }

    static void promise16_end_60IsFull() {
        new Run(READER, "end(20) -> 20", "end(20) -> 40", "end(20) -> 60", "end(1) -> NONE", "end(20) -> NONE",
            "end(0) -> 60", "packet() -> 0", "end(20) -> 20", "run(2)", "out(0,3) -> 60");
    }

    static void promise16_end_61IsTooMany() {
        new Run(READER, "end(20)", "end(20)", "end(1) -> 41", "end(20) -> NONE", "end(19) -> 60");
        new Run(READER, "end(20)", "end(20)", "end(19) -> 59", "end(2) -> NONE", "end(1) -> 60");
    }

    static void promise16_end_nothingComesIfItAnswersNone() {
        new Run(READER, "feed(-1,-1,-1,-1,-1)", "end(1) -> 1", "feed(0x77777777,0,0,0,0)", "end(21) -> NONE",
            "end(-1) -> NONE", "end(0) -> 1", "packet()", "run(2)").bytes(0, "FF");
    }

    static void promise16_end_behindWhatIsThere() {
        new Run(READER).sends(0, "0102030405060708090A0B0C0D0E0F101112131415161718191A1B1C1D1E1F202122232425262728292A2B2C"
            + "2D2E2F303132333435363738393A3B3C").then("run(2)").bytes(0, "0102030405060708090A0B0C0D0E0F1011121314151617"
            + "18191A1B1C1D1E1F202122232425262728292A2B2C2D2E2F303132333435363738393A3B3C");
        new Run(READER, "feed(0x01020304,0,0,0,0)", "end(3)", "feed(0x05060708,0,0,0,0)", "end(2)", "packet()", "run(2)")
            .bytes(0, "0102030506");
    }

    static void promise16_end_beforeItIsLaid() {
        new Run("end(20) -> 20", "end(20) -> 40", "end(20) -> 60", "end(1) -> NONE", READER, "end(0) -> 60");
    }

    static void promise17_packet_notLaid() {
        new Run("end(3)", "packet() -> ISE", "end(0) -> 3", "lay() -> IAE", "packet() -> ISE", READER, "packet() -> 0",
            "run(2)", "out(0,3) -> 3");
    }

    static void promise17_packet_anEmptyTape() {
        new Run(READER, "packet() -> 0", "run(2) -> 1").out(0, 0, 0, 0, 0, 1).then("byteAt(0,0) -> NONE");
    }

    static void promise17_packet_theTapeIsEmptyThen() {
        new Run(READER, "end(20)", "packet() -> 0", "end(0) -> 0", "packet() -> 1", "run(9)", "out(0,3) -> 20",
            "out(1,3) -> 0");
    }

    static void promise17_packet_bytesOfAnEarlierPacketAreGone() {
        new Run(READER).sends(0, "FF".repeat(20)).then("end(3)", "packet() -> 1", "run(9)").bytes(1, "000000");
    }

    static void promise17_packet_40InLine() {
        new Run(READER).times(40, "packet() -> #").then("packet() -> ISE").counts(40, 40, 0, 0, 0, 1).then("end(2)",
            "packet() -> ISE", "end(0) -> 2", "run(1) -> 0", "packet() -> 40", "packet() -> ISE", "end(0) -> 0",
            "run(100) -> 41", "out(40,3) -> 2").counts(41, 0, 0, 41, 101, 1);
    }

    static void promise17_packet_thoseInStagesAreNotInLine() {
        Run run = new Run("field(8)", "state(-1,-1,-1,-1,-1)").times(12, "test(0,0,0,12)").then("lay() -> 12")
            .times(12, "packet() -> #").then("run(12) -> 0").counts(12, 0, 12, 0, 12, 12);
        run.times(40, "packet()").then("packet() -> ISE").counts(52, 40, 12, 0, 12, 12).then("run(100) -> 52");
    }

    static void promise17_packet_numbersGoOnThroughAllKinds() {
        new Run("field(8)", "action()", "table(0,-1,0,1,0)", READER, "packet() -> 0", "insert(0,0,0,0,0) -> 1",
            "remove(0) -> 2", "packet() -> 3", "run(9) -> 4", "packet() -> 4");
    }

    static void promise17_packet_aFieldUpToTheEnd() {
        new Run("field(8)", "field(16)", "state(0,1,-1,-1,-1)", "lay()").sends(0, "112233").sends(1, "11223344")
            .then("run(9)").out(0, 0, 0, 0, 3, 1).out(1, 0, 0, 0, 4, 2).bytes(0, "112233").bytes(1, "11223344");
    }

    static void promise17_packet_aFieldBeyondTheEnd() {
        new Run("field(8)", "field(16)", "state(0,1,-1,-1,-1)", "lay()").sends(0, "1122").sends(1, "11").sends(2, "")
            .then("run(9)").out(0, 0, 2, -1, -1, 1).out(1, 0, 2, -1, -1, 2).out(2, 0, 2, -1, -1, 3);
    }

    static void promise17_packet_aFieldOneBitBeyondTheEnd() {
        new Run("field(7)", "field(1)", "state(0,1,-1,-1,-1)", "lay()").sends(0, "81").then("run(2)", "out(0,1) -> 0");
        new Run("field(7)", "field(2)", "state(0,1,-1,-1,-1)", "lay()").sends(0, "81").then("run(2)", "out(0,1) -> 2");
    }

    static void promise17_packet_fieldsThatFillAll60Bytes() {
        Run run = new Run().times(16, "field(30)").then("state(0,1,2,3,-1)", "state(4,5,6,7,-1)", "state(8,9,10,11,-1)",
            "state(12,13,14,15,-1)", "otherwise(0,1)", "otherwise(1,2)", "otherwise(2,3)", "lay()");
        String bytes = "0102030405060708090A0B0C0D0E0F10F1F2F3F4".repeat(3);
        run.sends(0, bytes).sends(1, bytes.substring(2)).then("run(9)", "out(0,1) -> 0", "out(1,1) -> 2").bytes(0, bytes);
    }

    static void promise17_packet_aFieldASecondTimeInOneState() {
        new Run("field(8)", "field(8)", "state(0,1,0,-1,-1)", "lay()").sends(0, "11223344").then("run(2)")
            .out(0, 0, 2, -1, -1, 1);
    }

    static void promise17_packet_aFieldASecondTimeInAnotherState() {
        new Run("field(8)", "field(8)", "state(0,-1,-1,-1,-1)", "state(1,0,-1,-1,-1)", "otherwise(0,1)", "lay()")
            .sends(0, "11223344").then("run(2)", "out(0,1) -> 2");
    }

    static void promise17_packet_eachFieldASecondTime() {
        for (int field = 0; field < 16; field++) {
            new Run().times(16, "field(4)").then("state(" + field + ",-1,-1,-1,-1)", "state(" + field + ",-1,-1,-1,-1)",
                "otherwise(0,1)", "lay()").sends(0, "FFFF").then("run(2)").out(0, 0, 2, -1, -1, 1);
        }
    }

    static void promise17_packet_statesWithoutFieldsComeAgain() {
        // State i goes on to state 4 + i, which reads field i and comes back to state 0, while field i is 0.
        Run run = new Run().times(4, "field(8)").times(4, "state(-1,-1,-1,-1,#)").times(4, "state(#,-1,-1,-1,-1)");
        for (int i = 0; i < 4; i++) {
            run.then("choice(" + i + ",0,255," + (4 + i) + ")", "otherwise(" + i + "," + (i < 3 ? i + 1 : -1) + ")",
                "otherwise(" + (4 + i) + ",0)");
        }
        run.then("lay()").sends(0, "01020304").sends(1, "0102030405").sends(2, "01020300").sends(3, "010203")
            .sends(4, "00020304").then("run(9)", "out(0,1) -> 0", "out(1,1) -> 0", "out(2,1) -> 2", "out(3,1) -> 2",
                "out(4,1) -> 2");
    }

    static void promise17_packet_aStateThatComesRoundWithAField() {
        new Run("field(8)", "state(0,-1,-1,-1,0)", "choice(0,7,255,0)", "lay()").sends(0, "0707").sends(1, "08")
            .then("run(9)", "out(0,1) -> 2", "out(1,1) -> 0");
    }

    static void promise17_packet_readingBeginsAtState0() {
        new Run("field(8)", "field(16)", "state(0,-1,-1,-1,-1)", "state(1,-1,-1,-1,-1)", "otherwise(1,-2)", "lay()")
            .sends(0, "11").then("run(2)", "out(0,1) -> 0");
    }

    static void promise17_packet_throughAllEightStates() {
        Run run = new Run().times(8, "field(8)").times(8, "state(#,-1,-1,-1,-1)");
        for (int i = 0; i < 7; i++) {
            run.then("otherwise(" + i + "," + (i + 1) + ")");
        }
        run.then("lay()").sends(0, "0102030405060708").sends(1, "01020304050607").then("run(9)", "out(0,1) -> 0",
            "out(1,1) -> 2");
    }

    static void promise17_packet_rejectedLeavesEarlierFieldsUndone() {
        new Run("field(8)", "state(0,-1,-1,-1,0)", "choice(0,9,255,-2)", "action()", "doing(0,7,0,0,1)",
            "table(0,-1,0,1,0)", "apply(0)", "lay()").sends(0, "09").sends(1, "05").then("run(9)").out(0, 0, 2, -1, -1, 1)
            .then("word(0,9) -> 0", "word(0,5) -> 1", "byteAt(0,0) -> NONE");
    }

    static void promise17_packet_fieldsThatWereNotReadAre0() {
        new Run("field(8)", "field(8)", "state(0,-1,-1,-1,0)", "state(1,-1,-1,-1,-1)", "choice(0,1,255,1)", "action()",
            "doing(0,1,0,1,0)", "table(0,-1,0,1,0)", "apply(0)", "lay()").sends(0, "0155").sends(1, "0255").then("run(9)")
            .bytes(0, "5555").bytes(1, "0055");
    }

    static void promise17_packet_payloadBehindBitsThatDontFillAByte() {
        new Run("field(3)", "field(32)", "field(1)", "state(0,1,2,-1,-1)", "action()", "doing(0,0,0,-1,0)",
            "doing(0,2,1,0,1)", "doing(0,0,2,2,0)", "table(2,-1,0,1,0)", "apply(0)", "lay()")
            .sends(0, "1FFFFFFFFFABCDEF").sends(1, "0000000010").sends(2, "FFFFFFFF").then("run(9)")
            // 36 bits are fields: field 0 is 7, field 1 grows by 8, field 2 is cut to 0.
            .bytes(0, "E0000000EFABCDEF").bytes(1, "E000000100").out(2, 0, 2, -1, -1, 3);
    }

    static void promise17_packet_aFieldAcrossEachByte() {
        // A field of 32 bits, all of which are turned to ones, behind each number of bits.
        for (int ahead = 1; ahead <= 31; ahead++) {
            String ones = "0".repeat(ahead) + "1".repeat(32) + "0".repeat(64 - ahead - 32);
            new Run("field(" + ahead + ")", "field(32)", "state(0,1,-1,-1,-1)", "action()", "doing(0,0,1,-1,0)",
                "table(0,-1,0,1,0)", "apply(0)", "lay()").sends(0, "0000000000000000").then("run(2)")
                .bytes(0, String.format("%016X", Long.parseUnsignedLong(ones, 2)));
        }
    }

    static void promise17_packet_eachFieldOf60Bytes() {
        for (int field = 0; field < 16; field++) {
            Run run = new Run().times(16, "field(30)").then("state(0,1,2,3,-1)", "state(4,5,6,7,-1)",
                "state(8,9,10,11,-1)", "state(12,13,14,15,-1)", "otherwise(0,1)", "otherwise(1,2)", "otherwise(2,3)",
                "action()", "doing(0,0," + field + ",-1,0)", "table(0,-1,0,1,0)", "apply(0)", "lay()");
            String bits = "0".repeat(30 * field) + "1".repeat(30) + "0".repeat(30 * (15 - field));
            StringBuilder bytes = new StringBuilder();
            for (int i = 0; i < 60; i++) {
                bytes.append(String.format("%02X", Integer.parseInt(bits.substring(8 * i, 8 * i + 8), 2)));
            }
            run.sends(0, "00".repeat(60)).then("run(2)").bytes(0, bytes.toString());
        }
    }

    static void promise17_packet_fieldsThatWereNotReadDoNotGoOut() {
        new Run("field(8)", "field(8)", "state(1,-1,-1,-1,-1)", "action()", "doing(0,0,0,0xEE,0)", "table(1,-1,0,1,0)",
            "apply(0)", "lay()").sends(0, "1122").then("run(2)").bytes(0, "1122");
    }
}
