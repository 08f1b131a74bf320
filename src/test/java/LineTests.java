/** Promises 15 to 26: the tape, the line, the cycles, and what is told of operations that are OUT. */
public final class LineTests {
    private static final int NONE = MatchPipe.NONE;
    private static final int REJECT = -2;

    public static void main(String[] args) {
        feedAndEnd();
        packets();
        reading();
        bitsThatDontFillBytes();
        doings();
        dropGoesOn();
        relations();
        testsSkip();
        masksOfEntries();
        bestEntry();
        entriesComeAndGo();
        twentyEntries();
        entriesInTurn();
        keysStay();
        cycles();
        latest64();
        arraysAndEntries();
        Check.close("LineTests");
    }

    private static MatchPipe withFields(int... widths) {
        MatchPipe x = new MatchPipe();
        for (int width : widths) {
            x.field(width);
        }
        return x;
    }

    private static int send(MatchPipe x, int bytes, int... words) {
        int[] w = java.util.Arrays.copyOf(words, 5);
        x.feed(w[0], w[1], w[2], w[3], w[4]);
        x.end(bytes);
        return x.packet();
    }

    private static String bytes(MatchPipe x, int operation) {
        StringBuilder text = new StringBuilder();
        for (int i = 0; x.byteAt(operation, i) != NONE; i++) {
            text.append(String.format("%02X", x.byteAt(operation, i)));
        }
        return text.toString();
    }

    /** Its kind, how it went, PORT, bytes, cycle. */
    private static void outIs(String what, MatchPipe x, int operation, int... want) {
        for (int i = 0; i < want.length; i++) {
            int of = i;
            Check.due(what + ": out " + i, want[i], () -> x.out(operation, of));
        }
    }

    private static void feedAndEnd() {
        MatchPipe x = withFields(8);
        x.state(NONE, NONE, NONE, NONE, NONE);
        x.lay();
        int[] bad = {-1, 21, Integer.MIN_VALUE, Integer.MAX_VALUE};
        x.feed(0x01020304, 0x05060708, 0x090A0B0C, 0x0D0E0F10, 0xFFFEFDFC);
        for (int n : bad) {
            Check.due("end " + n, NONE, () -> x.end(n));
        }
        Check.due("an end that answers none leaves the bytes ready", 20, () -> x.end(20));
        Check.due("then they are 0", 22, () -> x.end(2));
        x.feed(-1, -1, -1, -1, -1);
        Check.due("end 0", 22, () -> x.end(0));
        Check.due("they are 0 behind end 0, too", 23, () -> x.end(1));
        x.feed(0x11111111, 0, 0, 0, 0);
        x.feed(0xAABBCCDD, 0, 0, 0, 0);
        Check.due("the latest feed", 43, () -> x.end(20));
        x.feed(0x77000000, 0, 0, 0, 0);
        Check.due("61", NONE, () -> x.end(18));
        Check.due("60", 60, () -> x.end(17));
        Check.due("61 again", NONE, () -> x.end(1));
        Check.due("60 still", 60, () -> x.end(0));
        Check.due("packet", 0, x::packet);
        Check.due("the tape is empty", 0, () -> x.end(0));
        x.run(2);
        Check.same("bytes", "0102030405060708090A0B0C0D0E0F10FFFEFDFC" + "0000" + "00" + "AABBCCDD"
            + "0".repeat(32) + "77" + "0".repeat(32), bytes(x, 0));
        Check.due("how many", 60, () -> x.out(0, 3));
        Check.due("byte 60", NONE, () -> x.byteAt(0, 60));
        Check.due("byte -1", NONE, () -> x.byteAt(0, -1));
        Check.due("byte of none", NONE, () -> x.byteAt(1, 0));
        Check.due("byte of none below", NONE, () -> x.byteAt(-1, 0));
    }

    private static void packets() {
        MatchPipe x = withFields(8);
        x.end(3);
        Check.due("not laid", Check.STATE, x::packet);
        Check.due("the tape stays", 3, () -> x.end(0));
        x.state(NONE, NONE, NONE, NONE, NONE);
        x.action();
        x.table(0, NONE, 0, 1, 0);
        Check.due("insert, not laid", Check.STATE, () -> x.insert(0, 0, 0, 0, 0));
        Check.due("remove, not laid", Check.STATE, () -> x.remove(0));
        Check.due("run, not laid", Check.STATE, () -> x.run(-1));
        x.lay();
        for (int i = 0; i < 40; i++) {
            Check.due("packet " + i, i, x::packet);
        }
        x.end(2);
        Check.due("a 41st", Check.STATE, x::packet);
        Check.due("a 41st insert", Check.STATE, () -> x.insert(0, 0, 0, 0, 0));
        Check.due("a 41st remove", Check.STATE, () -> x.remove(0));
        Check.due("a 41st insert, no table", Check.INDEX, () -> x.insert(1, 0, 0, 0, 0));
        Check.due("a 41st remove, no table", Check.INDEX, () -> x.remove(-1));
        Check.due("the tape stays", 2, () -> x.end(0));
        x.run(1);
        Check.due("room again", 40, x::packet);
        x.run(2);
        Check.due("insert", 41, () -> x.insert(0, 0, 0, 0, 0));
        Check.due("remove", 42, () -> x.remove(0));
        x.run(100);
        Check.due("the first has what was on the tape", 3, () -> x.out(0, 3));
        Check.due("an empty packet", 0, () -> x.out(1, 3));
        Check.due("the 41st has two bytes", 2, () -> x.out(40, 3));
    }

    private static void reading() {
        MatchPipe x = withFields(8, 16, 8);
        x.state(0, NONE, NONE, NONE, 0);
        x.state(1, 2, NONE, NONE, 2);
        x.state(NONE, NONE, NONE, NONE, 0);
        x.choice(0, 1, 255, 1);
        x.choice(0, 2, 255, 2);
        x.choice(0, 3, 255, 0);
        x.otherwise(0, REJECT);
        x.choice(1, 9, 255, 0);
        x.choice(2, 2, 255, 1);
        int swap = x.action();
        x.doing(swap, 1, 2, 0, 0);
        x.doing(swap, 4, 0, 5, 0);
        x.apply(x.table(0, NONE, 0, 1, 0));
        x.lay();
        send(x, 5, 0x01AABBCC, 0xDD000000);
        send(x, 4, 0x02AABBCC);
        send(x, 3, 0x01AABB00);
        send(x, 1, 0x04000000);
        send(x, 8, 0x03030303);
        send(x, 8, 0x01AABB09, 0x03030303);
        send(x, 0, 0);
        x.run(20);
        outIs("read through", x, 0, 0, 0, 5, 5, 1);
        Check.same("fields as they are then, then the payload", "01AABB01DD", bytes(x, 0));
        outIs("by a state without fields", x, 1, 0, 0, 5, 4, 2);
        Check.same("its bytes", "02AABB02", bytes(x, 1));
        outIs("beyond the end", x, 2, 0, 2, NONE, NONE, 3);
        Check.due("no bytes", NONE, () -> x.byteAt(2, 0));
        outIs("REJECT", x, 3, 0, 2, NONE, NONE, 4);
        outIs("a field a second time", x, 4, 0, 2, NONE, NONE, 5);
        outIs("a field a second time, by another state", x, 5, 0, 2, NONE, NONE, 6);
        outIs("empty", x, 6, 0, 2, NONE, NONE, 7);

        MatchPipe y = withFields(8);
        y.state(0, 0, NONE, NONE, NONE);
        y.lay();
        send(y, 4, 0);
        y.run(2);
        outIs("a field twice in a state", y, 0, 0, 2, NONE, NONE, 1);
    }

    private static void bitsThatDontFillBytes() {
        MatchPipe x = withFields(3, 32, 1, 7);
        x.state(0, 1, 2, NONE, NONE);
        int change = x.action();
        x.doing(change, 0, 0, -1, 0);
        x.doing(change, 2, 1, 3, 1);
        x.doing(change, 0, 2, 2, 0);
        x.apply(x.table(3, NONE, 0, 1, 0));
        x.lay();
        send(x, 6, 0x1FFFFFFF, 0xFFABCDEF);
        send(x, 5, 0x00000000, 0x10000000);
        send(x, 4, -1);
        x.run(10);
        // 36 bits are fields: all of field 0 is 1, field 1 wraps to 0, field 2 is cut to 0.
        Check.same("cut, wrapped and joined to the payload", "E00000000FAB", bytes(x, 0));
        Check.same("unread field 3 is 0", "E000000020", bytes(x, 1));
        outIs("four bits are missing", x, 2, 0, 2);
    }

    private static MatchPipe oneAction(int[]... doings) {
        MatchPipe x = withFields(8, 4, 32);
        x.state(0, 1, 2, NONE, NONE);
        x.action();
        for (int[] d : doings) {
            x.doing(0, d[0], d[1], d[2], d[3]);
        }
        x.apply(x.table(0, NONE, 0, 1, 0));
        x.lay();
        x.key(7, 255, 0, 0);
        x.insert(0, 0, 0, 0x12345678, -9);
        send(x, 6, 0x07300000, 0x02500000);
        send(x, 6, 0x0810000F, 0xFFF00000);
        x.run(10);
        return x;
    }

    private static void changed(String what, int port, String first, String second, int[]... doings) {
        MatchPipe x = oneAction(doings);
        Check.same(what + ", an entry", first, bytes(x, 1));
        Check.same(what + ", no entry", second, bytes(x, 2));
        Check.due(what + ", PORT", port, () -> x.out(1, 2));
    }

    private static void doings() {
        changed("nothing", 0, "073000000250", "0810000FFFF0");
        changed("0", 0, "FF3000000250", "FF10000FFFF0", new int[] {0, 0, -1, 0});
        changed("1, cut", 0, "075000000250", "08F0000FFFF0", new int[] {1, 1, 2, 0});
        changed("one after the other", 0, "033000000250", "FF10000FFFF0", new int[] {1, 0, 1, 0},
            new int[] {0, 1, 9, 0}, new int[] {1, 1, 0, 0}, new int[] {2, 0, 1, -3});
        Check.due("PORT may be any int", -1, () -> oneAction(new int[] {4, 0, -1, 0}).out(1, 2));
        Check.due("PORT MIN", Integer.MIN_VALUE, () -> oneAction(new int[] {4, 0, Integer.MIN_VALUE, 0}).out(2, 2));
        Check.due("PORT is DATUM 0", 0x12345678, () -> oneAction(new int[] {5, 0, 0, 0}).out(1, 2));
        Check.due("PORT is DATUM 1", -9, () -> oneAction(new int[] {5, 0, 1, 0}).out(1, 2));
        Check.due("DATA are 0 without a match", 0,
            () -> oneAction(new int[] {4, 0, 3, 0}, new int[] {5, 0, 1, 0}).out(2, 2));
        changed("2 by itself and z", 0, "103000000250", "1210000FFFF0", new int[] {2, 0, 0, 2});
        changed("2 wraps", 0, "FF3000000250", "FF10000FFFF0", new int[] {2, 0, 0, -15}, new int[] {2, 0, 1, -3});
        changed("3", 0, "783000000250", "0010000FFFF0", new int[] {3, 0, 0, 0});
        changed("3, DATUM 1", 0, "073FFFFFFF70", "081000000000", new int[] {3, 2, 1, 0});
        MatchPipe words = oneAction(new int[] {7, 3, 2, 5}, new int[] {7, 3, 2, -6}, new int[] {8, 0, 2, 3});
        Check.due("word 5 (0x25 modulo 16)", -1, () -> words.word(3, 5));
        Check.due("word 15 (0xFFFF modulo 16)", -1, () -> words.word(3, 15));
        Check.same("8, cut", "FF3000000250", bytes(words, 1));
        Check.due("another array", 0, () -> words.word(2, 5));
    }

    private static void dropGoesOn() {
        MatchPipe x = withFields(8);
        x.state(0, NONE, NONE, NONE, NONE);
        int drop = x.action();
        x.doing(drop, 6, 0, 0, 0);
        x.doing(drop, 4, 0, 3, 0);
        int tally = x.action();
        x.doing(tally, 7, 0, 0, 2);
        x.apply(x.table(0, NONE, 0, 1, 0));
        x.apply(x.table(0, NONE, 0, 2, 1));
        x.lay();
        send(x, 1, 0x05000000);
        x.run(5);
        outIs("dropped", x, 0, 0, 1, NONE, NONE, 1);
        Check.due("no bytes", NONE, () -> x.byteAt(0, 0));
        Check.due("counted all the same", 2, () -> x.word(0, 5));
    }

    private static boolean isSo(int width, int relation, int word, int value) {
        MatchPipe x = withFields(width);
        x.state(0, NONE, NONE, NONE, NONE);
        x.action();
        x.doing(0, 4, 0, 1, 0);
        x.table(0, NONE, 0, 1, 0);
        x.test(0, relation, word, 2);
        x.apply(0);
        x.lay();
        send(x, 4, value);
        x.run(5);
        return x.out(0, 2) == 1;
    }

    private static void relations() {
        int[] words = {0, 1, 2, Integer.MAX_VALUE, Integer.MIN_VALUE, -2, -1};
        for (int i = 0; i < words.length; i++) {
            for (int j = 0; j < words.length; j++) {
                String at = words[i] + ", " + words[j];
                Check.same("= " + at, "" + (i == j), "" + isSo(32, 0, words[j], words[i]));
                Check.same("not = " + at, "" + (i != j), "" + isSo(32, 1, words[j], words[i]));
                Check.same("below " + at, "" + (i < j), "" + isSo(32, 2, words[j], words[i]));
                Check.same("not below " + at, "" + (i >= j), "" + isSo(32, 3, words[j], words[i]));
            }
        }
        Check.same("a word beyond the field", "true", "" + isSo(8, 2, 256, 0xFF000000));
        Check.same("a word beyond the field is not equal", "false", "" + isSo(8, 0, 256, 0));
    }

    private static void testsSkip() {
        MatchPipe x = withFields(8, 8);
        x.state(0, 1, NONE, NONE, NONE);
        for (int i = 0; i < 4; i++) {
            x.action();
            x.doing(i, 7, i, 1, 1);
            x.table(0, NONE, 0, 1 << i, i);
        }
        x.test(0, 0, 5, 3);
        x.apply(0);
        x.apply(1);
        x.apply(2);
        x.test(0, 3, 5, 6);
        x.apply(3);
        x.lay();
        send(x, 2, 0x05010000);
        send(x, 2, 0x04020000);
        send(x, 2, 0x06030000);
        x.run(20);
        int[][] want = {{1, 1, 1, 1}, {0, 0, 1, 0}, {0, 0, 1, 1}};
        for (int packet = 0; packet < 3; packet++) {
            for (int array = 0; array < 4; array++) {
                int a = array;
                int word = packet + 1;
                Check.due("packet " + packet + " at table " + a, want[packet][a], () -> x.word(a, word));
            }
        }
    }

    /** Whether a table of one key of 8 bits takes an entry in. */
    private static void mask(String what, int how, int mask, int want) {
        MatchPipe x = withFields(8);
        x.state(0, NONE, NONE, NONE, NONE);
        x.action();
        x.table(0, NONE, how, 1, 0);
        x.lay();
        x.key(-1, mask, 0, 77);
        x.insert(0, 0, 0, 0, 0);
        x.run(2);
        outIs(what, x, 0, 1, want, NONE, NONE, 1);
        Check.due(what + ": entries", 1 - want, () -> x.entries(0));
    }

    private static void masksOfEntries() {
        mask("EXACT, all", 0, 0xFF, 0);
        mask("EXACT, cut", 0, -1, 0);
        mask("EXACT, none", 0, 0, 1);
        mask("EXACT, not all", 0, 0xFE, 1);
        mask("EXACT, beyond", 0, 0xFF00, 1);
        mask("PREFIX, all", 1, 0xFF, 0);
        mask("PREFIX, none", 1, 0, 0);
        mask("PREFIX, cut to none", 1, 0xF00, 0);
        mask("PREFIX, one", 1, 0x80, 0);
        mask("PREFIX, cut", 1, 0xFFFFFFE0, 0);
        mask("PREFIX, from below", 1, 0x7F, 1);
        mask("PREFIX, a hole", 1, 0xEF, 1);
        mask("PREFIX, two", 1, 0xA0, 1);
        mask("MASKED, any", 2, 0x5A, 0);
        mask("MASKED, none", 2, 0, 0);

        MatchPipe x = withFields(32, 4);
        x.state(0, 1, NONE, NONE, NONE);
        x.action();
        x.table(0, 1, 1, 1, 0);
        x.lay();
        int[][] keys = {{0, 0, 0, 15, 0}, {0, -1, 0, 15, 0}, {5, 0, 1, -1, 0}, {0, 1, 0, 15, 1}, {0, 0, 2, 7, 1},
            {0, Integer.MIN_VALUE, 0, 15, 0}, {99, 0, 17, 31, 1}};
        for (int[] k : keys) {
            x.key(k[0], k[1], k[2], k[3]);
            x.insert(0, 0, 0, 0, 0);
        }
        x.run(20);
        for (int i = 0; i < keys.length; i++) {
            outIs("two keys, " + i, x, i, 1, keys[i][4]);
        }
    }

    private static void bestEntry() {
        MatchPipe x = withFields(8, 8);
        x.state(0, 1, NONE, NONE, NONE);
        x.action();
        x.doing(0, 5, 0, 0, 0);
        x.table(0, 1, 6, 1, 0);
        x.apply(0);
        x.lay();
        int[][] entries = {
            {0, 0, 0x10, 0xF0, 100}, {0, 0, 0x12, 0xFF, -100}, {0x01, 0x0F, 0x10, 0xF0, 100}, {0x20, 0xF0, 0x10, 0xF0, 101},
            {0, 0xFF, 0, 0, Integer.MAX_VALUE}, {3, 0xFF, 0x30, 0xF0, Integer.MIN_VALUE}, {3, 0x0F, 0x30, 0xF0, 0},
        };
        for (int i = 0; i < entries.length; i++) {
            int[] e = entries[i];
            x.key(e[0], e[1], e[2], e[3]);
            x.insert(0, e[4], 0, i + 1, 0);
        }
        int[][] packets = {{0x99, 0x11, 1}, {0x99, 0x12, 2}, {0x01, 0x11, 1}, {0x21, 0x11, 4}, {0, 0x77, 5}, {1, 0x77, 0},
            {0, 0x11, 1}, {3, 0x33, 7}};
        for (int[] p : packets) {
            send(x, 2, p[0] << 24 | p[1] << 16);
        }
        x.run(30);
        for (int i = 0; i < packets.length; i++) {
            int number = entries.length + i;
            Check.due("packet " + i, packets[i][2], () -> x.out(number, 2));
        }
    }

    private static void entriesComeAndGo() {
        MatchPipe x = withFields(8);
        x.state(0, NONE, NONE, NONE, NONE);
        x.action();
        x.action();
        x.action();
        x.table(0, NONE, 2, 5, 0);
        x.lay();
        Check.due("no such table", Check.INDEX, () -> x.insert(1, 0, 0, 0, 0));
        Check.due("no such table below", Check.INDEX, () -> x.insert(-1, 0, 0, 0, 0));
        Check.due("remove, no such table", Check.INDEX, () -> x.remove(1));
        Check.due("remove, no such table below", Check.INDEX, () -> x.remove(-1));
        x.key(0x15, 0xF0, 0, 0);
        int[] actions = {1, 3, 16, -1, 32, 34, Integer.MAX_VALUE, Integer.MIN_VALUE};
        for (int action : actions) {
            x.insert(0, 0, action, 0, 0);
        }
        x.insert(0, 0, 2, 0, 0);
        x.insert(0, 9, 0, 1, 1);
        x.key(0x11A, 0xFFF0, 5, 5);
        x.insert(0, 9, 0, 1, 1);
        x.remove(0);
        x.remove(0);
        x.insert(0, 9, 0, 1, 1);
        x.key(0x15, 0xF1, 0, 0);
        x.remove(0);
        x.run(40);
        for (int i = 0; i < actions.length; i++) {
            outIs("action " + actions[i], x, i, 1, 1, NONE, NONE);
        }
        int n = actions.length;
        outIs("comes", x, n, 1, 0);
        outIs("the same once more", x, n + 1, 1, 1);
        outIs("the same when cut", x, n + 2, 1, 1);
        outIs("goes", x, n + 3, 2, 0, NONE, NONE);
        outIs("goes again", x, n + 4, 2, 1, NONE, NONE);
        outIs("comes again", x, n + 5, 1, 0);
        outIs("another mask goes", x, n + 6, 2, 1);
        Check.due("byteAt of an entry", NONE, () -> x.byteAt(n, 0));
        Check.due("entries", 1, () -> x.entries(0));
    }

    private static void twentyEntries() {
        MatchPipe x = withFields(8);
        x.state(0, NONE, NONE, NONE, NONE);
        x.action();
        x.doing(0, 5, 0, 0, 0);
        x.table(0, NONE, 2, 1, 0);
        x.apply(0);
        x.lay();
        for (int i = 0; i < 21; i++) {
            x.key(i, 255, 0, 0);
            x.insert(0, 0, 0, i, 0);
        }
        x.key(0, 255, 0, 0);
        x.remove(0);
        x.key(0, 0, 0, 0);
        x.insert(0, 0, 0, 50, 0);
        x.key(3, 15, 0, 0);
        x.remove(0);
        x.insert(0, 0, 0, 60, 0);
        send(x, 1, 0x03000000);
        send(x, 1, 0x13000000);
        send(x, 1, 0x14000000);
        x.run(40);
        outIs("the 20th", x, 19, 1, 0);
        outIs("the 21st", x, 20, 1, 1);
        outIs("one goes", x, 21, 2, 0);
        outIs("room again", x, 22, 1, 0);
        outIs("none such", x, 23, 2, 1);
        outIs("full again", x, 24, 1, 1);
        Check.due("entries", 20, () -> x.entries(0));
        Check.due("3 came before the one for all", 3, () -> x.out(25, 2));
        Check.due("19 too", 19, () -> x.out(26, 2));
        Check.due("20 is not there", 50, () -> x.out(27, 2));
    }

    private static void entriesInTurn() {
        MatchPipe x = withFields(8);
        x.state(0, NONE, NONE, NONE, NONE);
        x.action();
        x.action();
        x.doing(1, 5, 0, 0, 0);
        x.table(0, NONE, 0, 2, 1);
        x.test(0, 3, 0, 1);
        x.test(0, 3, 0, 2);
        x.apply(0);
        x.lay();
        x.key(1, 255, 0, 0);
        send(x, 1, 0x01000000);
        x.insert(0, 0, 1, 7, 0);
        send(x, 1, 0x01000000);
        x.remove(0);
        send(x, 1, 0x01000000);
        x.insert(0, 0, 1, 8, 0);
        send(x, 1, 0x01000000);
        Check.due("all come OUT", 7, () -> x.run(10));
        Check.due("ahead of the entry", 0, () -> x.out(0, 2));
        Check.due("behind it", 7, () -> x.out(2, 2));
        Check.due("behind its going", 0, () -> x.out(4, 2));
        Check.due("behind its coming again", 8, () -> x.out(6, 2));
    }

    private static void keysStay() {
        MatchPipe x = withFields(8);
        x.state(0, NONE, NONE, NONE, NONE);
        x.action();
        x.table(0, NONE, 2, 1, 0);
        x.table(0, NONE, 2, 1, 0);
        x.key(1, 255, 0, 0);
        x.lay();
        x.insert(0, 0, 0, 0, 0);
        x.insert(1, 0, 0, 0, 0);
        x.key(2, 255, 0, 0);
        x.insert(0, 0, 0, 0, 0);
        x.key(1, 255, 0, 0);
        x.remove(0);
        x.run(10);
        for (int i = 0; i < 4; i++) {
            outIs("key of operation " + i, x, i, i == 3 ? 2 : 1, 0);
        }
        Check.due("entries of 0", 1, () -> x.entries(0));
        Check.due("entries of 1", 1, () -> x.entries(1));
    }

    private static void cycles() {
        MatchPipe x = withFields(8);
        x.state(NONE, NONE, NONE, NONE, NONE);
        x.test(0, 0, 0, 1);
        x.test(0, 0, 0, 2);
        x.lay();
        Check.due("run -1", Check.ARGUMENT, () -> x.run(-1));
        Check.due("run 101", Check.ARGUMENT, () -> x.run(101));
        Check.due("run 0", 0, () -> x.run(0));
        Check.due("no cycle yet", 0, () -> x.count(4));
        Check.due("run 100", 0, () -> x.run(100));
        Check.due("100 cycles", 100, () -> x.count(4));
        x.packet();
        x.packet();
        x.packet();
        countsAre(x, 3, 3, 0, 0, 100, 2);
        Check.due("run 1", 0, () -> x.run(1));
        countsAre(x, 3, 2, 1, 0, 101, 2);
        Check.due("run 1", 0, () -> x.run(1));
        countsAre(x, 3, 1, 2, 0, 102, 2);
        Check.due("in a stage: not OUT", NONE, () -> x.out(0, 0));
        Check.due("run 1", 1, () -> x.run(1));
        countsAre(x, 3, 0, 2, 1, 103, 2);
        Check.due("OUT", 102, () -> x.out(0, 4));
        Check.due("run 2", 2, () -> x.run(2));
        countsAre(x, 3, 0, 0, 3, 105, 2);
        Check.due("OUT last", 104, () -> x.out(2, 4));
        Check.due("count 6", NONE, () -> x.count(6));
        Check.due("count -1", NONE, () -> x.count(-1));
        Check.due("out 5", NONE, () -> x.out(0, 5));
        Check.due("out -1", NONE, () -> x.out(0, -1));
        Check.due("out of none", NONE, () -> x.out(3, 0));
        Check.due("out of none below", NONE, () -> x.out(-1, 0));
    }

    private static void countsAre(MatchPipe x, int... want) {
        for (int i = 0; i < want.length; i++) {
            int what = i;
            Check.due("count " + i, want[i], () -> x.count(what));
        }
    }

    private static void latest64() {
        MatchPipe x = withFields(8);
        x.state(0, NONE, NONE, NONE, NONE);
        x.lay();
        for (int i = 0; i < 130; i++) {
            send(x, 2, i << 24 | 0x550000);
            x.run(2);
        }
        for (int i = 0; i < 40; i++) {
            x.packet();
        }
        Check.due("the 64th of the latest", 0, () -> x.out(66, 0));
        Check.due("its byte", 66, () -> x.byteAt(66, 0));
        Check.due("its cycle", 133, () -> x.out(66, 4));
        Check.due("the 65th", NONE, () -> x.out(65, 0));
        Check.due("its byte", NONE, () -> x.byteAt(65, 0));
        x.run(2);
        Check.due("one more is OUT", NONE, () -> x.byteAt(66, 0));
        Check.due("the next one", 67, () -> x.byteAt(67, 0));
        Check.due("the latest", 2, () -> x.out(130, 1));
    }

    private static void arraysAndEntries() {
        MatchPipe x = withFields(8);
        x.state(0, NONE, NONE, NONE, NONE);
        x.action();
        x.doing(0, 7, 3, 0, Integer.MAX_VALUE);
        x.table(0, NONE, 2, 1, 0);
        x.apply(0);
        x.lay();
        send(x, 1, 0x0F000000);
        Check.due("in line alone", 0, () -> x.word(3, 15));
        x.run(1);
        Check.due("in a stage", Check.STATE, () -> x.word(3, 15));
        Check.due("in a stage, no such array", Check.STATE, () -> x.word(4, 15));
        Check.due("entries, in a stage", Check.STATE, () -> x.entries(0));
        Check.due("entries, in a stage, no such table", Check.STATE, () -> x.entries(9));
        x.run(1);
        send(x, 1, 0x1F000000);
        x.run(2);
        Check.due("a word wraps", -2, () -> x.word(3, 15));
        Check.due("no such array", 0, () -> x.word(4, 15));
        Check.due("no such array below", 0, () -> x.word(-1, 15));
        Check.due("no such word", 0, () -> x.word(2, 31));
        Check.due("no such word below", 0, () -> x.word(3, -1));
        Check.due("no entries", 0, () -> x.entries(0));
        Check.due("no such table", NONE, () -> x.entries(1));
        Check.due("no such table below", NONE, () -> x.entries(-1));
    }
}
