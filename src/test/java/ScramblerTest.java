import java.util.Set;

/** "Terms": the scrambler and the states. */
public final class ScramblerTest {
    private static final Check CHECK = new Check("ScramblerTest");

    public static void main(String[] args) {
        comesAgainByBothBits();
        headsAreNotScrambled();
        everyBitOfTheState();
        stateAsALong();
        allBlocksGoIntoIt();
        receiverHasWhatCame();
        turnedBitSpoilsThreeBits();
        toldOrNot();
        wrongHeadsGoThroughIt();
        droppedBitsDoNot();
        CHECK.end();
    }

    private static void comesAgainByBothBits() {
        CHECK.sentence("each bit goes out as itself xor the one that went out 39 bits before xor"
                + " the one 58 bits before");
        LineBlocks x = new LineBlocks();
        x.word(0x80000000, 0);
        x.word(0, 0);
        // One bit comes again 39 and 58 bits later, and so do those; what comes twice goes out.
        Set<Integer> ones = Set.of(7, 7 + 39, 7 + 58, 7 + 78, 7 + 116, 7 + 117);
        for (int k = 0; k < 128; k++) {
            int at = k < 64 ? 2 + k : 66 + 2 + k - 64;
            CHECK.due("payload bit " + k + " on the line", x.bit(at), ones.contains(k) ? 1 : 0);
        }
    }

    private static void headsAreNotScrambled() {
        CHECK.sentence("heads are not scrambled");
        long[] states = {0, -1, 0x155555555555555L, 1L << 57, 1L << 38, 1L << 56, 1L << 37};
        for (long state : states) {
            LineBlocks x = new LineBlocks();
            x.state(0, state);
            x.word(-1, 7);
            x.idle(1);
            CHECK.due("head of data", Blocks.head(x, 0), 1);
            CHECK.due("head of IDLEs", Blocks.head(x, 66), 10);
        }
    }

    private static void everyBitOfTheState() {
        CHECK.sentence("has the last 58 bits that went out of payloads");
        for (int k = 0; k < 58; k++) {
            LineBlocks x = new LineBlocks();
            x.state(0, 1L << k);
            x.word(0x12345678, 0x9ABCDEF0);
            CHECK.due("payload with bit " + k + " of the state",
                    Blocks.payload(x, 0, 1L << k), 0xF0DEBC9A78563412L);
        }
    }

    private static void stateAsALong() {
        CHECK.sentence("A STATE as a long: its lowest bit is the latest one, bit 57 the one 58"
                + " before");
        firstOne(57, 0);
        firstOne(56, 1);
        firstOne(39, 18);
        firstOne(38, 0);
        firstOne(37, 1);
        firstOne(0, 38);
        LineBlocks x = new LineBlocks();
        x.word(0x00000000, 0x00000080);
        CHECK.due("the latest bit", x.state(0, 0) & 1, x.bit(65));
        CHECK.due("the latest bit is 1", x.bit(65), 1);
    }

    /** With this bit alone in the state, eight bytes of 0 have their first 1 at this place. */
    private static void firstOne(int bitOfState, int place) {
        LineBlocks x = new LineBlocks();
        x.state(0, 1L << bitOfState);
        x.word(0, 0);
        int found = 0;
        while (found < 64 && x.bit(2 + found) == 0) {
            found++;
        }
        CHECK.due("the first 1 with bit " + bitOfState + " of the state", found, place);
    }

    private static void allBlocksGoIntoIt() {
        CHECK.sentence("has the last 58 bits that went out of payloads (of all blocks");
        LineBlocks x = new LineBlocks();
        x.idle(1);
        x.word(0x01020304, 0x05060708);
        Blocks.putAll(x, 257, 1, 2, 3, 4, 5, 6, 7);
        CHECK.due("payload 0", Blocks.payload(x, 0, 0), 0x1EL);
        CHECK.due("payload 1", Blocks.payload(x, 66, Blocks.stateBehind(x, 0)),
                0x0807060504030201L);
        CHECK.due("payload 2", Blocks.payload(x, 132, Blocks.stateBehind(x, 66)),
                0x0706050403020178L);
        CHECK.due("state behind all", x.state(0, 0), Blocks.stateBehind(x, 132));
    }

    private static void receiverHasWhatCame() {
        CHECK.sentence("THE RECEIVER has those that came, and xors likewise");
        LineBlocks x = Blocks.locked();
        x.word(0xDEADBEEF, 0x01234567);
        x.turn(2 + 63);
        long came = Blocks.stateBehind(x, 0);
        x.receive(66);
        CHECK.due("the receiver's state", x.state(1, 0), came);
        CHECK.due("the sender's state", x.state(0, 0), came ^ 1);
    }

    private static void turnedBitSpoilsThreeBits() {
        CHECK.sentence("THE RECEIVER has those that came, and xors likewise");
        LineBlocks x = Blocks.locked();
        x.word(0, 0);
        x.word(0, 0);
        x.turn(2 + 10);
        x.receive(132);
        Blocks.isTold(CHECK, x, 0, 0, 1 << 2, 0, 0, 0, 0, 1 << 1, 0);
        Blocks.isTold(CHECK, x, 1, 1 << 4, 0, 0, 0, 0, 0, 0, 0);
    }

    private static void toldOrNot() {
        CHECK.sentence("All payloads come through the scrambler back, told or not");
        LineBlocks x = new LineBlocks();
        x.word(0xDEADBEEF, 0x01234567);
        long came = Blocks.stateBehind(x, 0);
        x.receive(66);
        CHECK.due("receiver(4)", x.receiver(4), 0);
        CHECK.due("state behind a block that is not told", x.state(1, came), came);
        // The first block that is told is read with what came before it.
        x.idle(63);
        x.word(0x01020304, 0x05060708);
        CHECK.due("receive(all)", x.receive(9999), 1);
        Blocks.isTold(CHECK, x, 0, 1, 2, 3, 4, 5, 6, 7, 8);
    }

    private static void wrongHeadsGoThroughIt() {
        CHECK.sentence("All payloads come through the scrambler back, told or not");
        LineBlocks x = Blocks.locked();
        x.word(0xDEADBEEF, 0x01234567);
        x.word(0x01020304, 0x05060708);
        x.turn(0);
        x.receive(132);
        Blocks.isTold(CHECK, x, 0, Blocks.ERRORS);
        Blocks.isTold(CHECK, x, 1, 1, 2, 3, 4, 5, 6, 7, 8);
        LineBlocks y = new LineBlocks();
        y.word(0xDEADBEEF, 0x01234567);
        y.turn(1);
        long came = Blocks.stateBehind(y, 0);
        y.receive(66);
        CHECK.due("state behind a wrong head", y.state(1, 0), came);
    }

    private static void droppedBitsDoNot() {
        CHECK.sentence("Bits that are dropped do not");
        for (int dropped = 0; dropped <= 1; dropped++) {
            LineBlocks x = new LineBlocks();
            x.word(0xDEADBEEF, 0x01234567);
            x.turn(0);
            long came = Blocks.stateBehind(x, 0);
            x.receive(66);
            x.add(dropped);
            x.receive(1);
            CHECK.due("state behind a dropped " + dropped, x.state(1, came), came);
            x.idle(64);
            x.word(-1, 5);
            CHECK.due("receive(all)", x.receive(9999), 1);
            Blocks.isTold(CHECK, x, 0, 255, 255, 255, 255, 0, 0, 0, 5);
        }
    }
}
