import java.io.IOException;
import java.nio.file.Files;
import java.nio.file.Path;

/** The example of README.md stands here word for word, and answers what it says there. */
public final class ReadmeTests {
    private static final String FENCE = "```";

    private ReadmeTests() {
    }

    public static void main(String[] args) throws IOException {
        Check.begin("README.md");
        example();
        Check.same("its example", exampleHere(), exampleThere());
        Check.close("ReadmeTests");
    }

    private static void example() {
        // from here
        MatchPipe pipe = new MatchPipe();
        int address = pipe.field(8);
        pipe.state(address, MatchPipe.NONE, MatchPipe.NONE, MatchPipe.NONE, MatchPipe.NONE);
        int drop = pipe.action();
        pipe.doing(drop, 6, 0, 0, 0);                       // DROP
        int send = pipe.action();
        pipe.doing(send, 5, 0, 0, 0);                       // the PORT is DATUM 0
        int routes = pipe.table(address, MatchPipe.NONE, 1, 0b11, drop);
        pipe.apply(routes);
        int stages = pipe.lay();                            // 1; IllegalArgumentException: see fault()

        pipe.key(0x50, 0xF0, 0, 0);
        int route = pipe.insert(routes, 0, send, 7, 0);     // operation 0
        pipe.feed(0x51AABB00, 0, 0, 0, 0);
        pipe.end(3);
        int packet = pipe.packet();                         // operation 1
        int gone = pipe.run(10);                            // 2 went OUT
        int taken = pipe.out(route, 1);                     // 0: the entry was not REFUSED
        int port = pipe.out(packet, 2);                     // 7
        int first = pipe.byteAt(packet, 0);                 // 0x51
        // to here
        Check.same("stages", 1, stages);
        Check.same("the entry's number", 0, route);
        Check.same("the packet's number", 1, packet);
        Check.same("how many went OUT", 2, gone);
        Check.same("whether the entry was REFUSED", 0, taken);
        Check.same("the PORT", 7, port);
        Check.same("the first byte", 0x51, first);
    }

    private static String exampleHere() throws IOException {
        String text = Files.readString(Path.of("src/test/java/ReadmeTests.java"));
        return between("        // from here\n", "        // to here\n", text).replaceAll("(?m)^ {8}", "");
    }

    private static String exampleThere() throws IOException {
        return between(FENCE + "java\n", FENCE, Files.readString(Path.of("README.md")));
    }

    private static String between(String first, String last, String text) {
        int from = text.indexOf(first) + first.length();
        return text.substring(from, text.indexOf(last, from));
    }
}
