/** Promise 3. */
public final class WordTest {
    private static final Check CHECK = new Check("WordTest");

    public static void main(String[] args) {
        highestBytesFirst();
        signsAreNoMatter();
        asEightPuts();
        partOfOtherGroups();
        roomAtTheEdge();
        roomWithWaitingCharacters();
        CHECK.end();
    }

    private static void highestBytesFirst() {
        CHECK.sentence("Eight data: the bytes of w, then those of v, highest first");
        LineBlocks x = new LineBlocks();
        CHECK.due("word", x.word(0x01020304, 0x05060708), 0);
        CHECK.due("bits()", x.bits(), 66);
        CHECK.due("its head", Blocks.head(x, 0), 1);
        CHECK.due("its payload", Blocks.payload(x, 0, 0), 0x0807060504030201L);
    }

    private static void signsAreNoMatter() {
        CHECK.sentence("Eight data: the bytes of w, then those of v, highest first");
        goesOut(-1, 0, 0x00000000FFFFFFFFL);
        goesOut(0, -1, 0xFFFFFFFF00000000L);
        goesOut(Blocks.MIN, Blocks.MAX, 0xFFFFFF7F00000080L);
        goesOut(0xFEDCBA98, 0x80FF8081, 0x8180FF8098BADCFEL);
    }

    private static void goesOut(int w, int v, long payload) {
        LineBlocks x = new LineBlocks();
        String call = "word(" + w + ", " + v + ")";
        CHECK.due(call, x.word(w, v), 0);
        CHECK.due("head of " + call, Blocks.head(x, 0), 1);
        CHECK.due("payload of " + call, Blocks.payload(x, 0, 0), payload);
    }

    private static void asEightPuts() {
        CHECK.sentence("as eight puts: how many characters wait then");
        for (int waiting = 0; waiting < 8; waiting++) {
            LineBlocks x = Blocks.waiting(waiting);
            LineBlocks y = Blocks.waiting(waiting);
            CHECK.due("word with " + waiting + " waiting", x.word(0xA1B2C3D4, 0xE5F60718), waiting);
            Blocks.putAll(y, 0xA1, 0xB2, 0xC3, 0xD4, 0xE5, 0xF6, 0x07, 0x18);
            CHECK.due("bits()", x.bits(), 66);
            CHECK.due("eight puts more", Blocks.putAll(x, 9, 8, 7, 6, 5, 4, 3, 2), waiting);
            Blocks.putAll(y, 9, 8, 7, 6, 5, 4, 3, 2);
            for (int i = 0; i < 132; i++) {
                CHECK.due("bit(" + i + ") with " + waiting + " waiting", x.bit(i), y.bit(i));
            }
        }
    }

    private static void partOfOtherGroups() {
        CHECK.sentence("as eight puts");
        LineBlocks x = new LineBlocks();
        Blocks.putAll(x, Blocks.START, 1, 2);
        CHECK.due("word behind START and two", x.word(0x03040506, 0x07FFFE80), 3);
        CHECK.due("head", Blocks.head(x, 0), 10);
        CHECK.due("payload", Blocks.payload(x, 0, 0), 0x0706050403020178L);
        long behind = Blocks.stateBehind(x, 0);
        CHECK.due("five puts more", Blocks.putAll(x, 1, 2, 3, 4, 5), 0);
        CHECK.due("head of the rest", Blocks.head(x, 66), 1);
        CHECK.due("payload of the rest", Blocks.payload(x, 66, behind), 0x050403020180FEFFL);
    }

    private static void roomAtTheEdge() {
        CHECK.sentence("ROOM (9000 bits or more are on the line)");
        int[] full = {9000, 9001, 9065, 9066};
        for (int bits : full) {
            LineBlocks x = Blocks.filled(bits);
            long before = Blocks.senderState(x);
            CHECK.due("word with " + bits, x.word(1, 2), LineBlocks.ROOM);
            CHECK.due("bits() then", x.bits(), bits);
            x.receive(bits - 8999);
            CHECK.due("word with 8999", x.word(3, 4), 0);
            CHECK.due("bits() then", x.bits(), 9065);
            x.receive(8999);
            CHECK.due("the group", Blocks.payload(x, 0, before), 0x0400000003000000L);
        }
    }

    /** A word always completes a group: so no room is no room, however many wait. */
    private static void roomWithWaitingCharacters() {
        CHECK.sentence("ROOM (9000 bits or more are on the line)");
        for (int waiting = 1; waiting < 8; waiting++) {
            LineBlocks x = Blocks.filled(9000);
            for (int k = 1; k <= waiting; k++) {
                x.put(k);
            }
            CHECK.due("word with 9000, " + waiting + " wait", x.word(1, 2), LineBlocks.ROOM);
            CHECK.due("bits() then", x.bits(), 9000);
            x.receive(1);
            CHECK.due("word with 8999, " + waiting + " wait", x.word(1, 2), waiting);
            CHECK.due("bits() then", x.bits(), 9065);
        }
    }
}
