/** Promise 5. */
public final class StateTest {
    private static final Check CHECK = new Check("StateTest");

    public static void main(String[] args) {
        lowestBitsAreTaken();
        eachSideHasItsOwn();
        othersAreOutside();
        senderGoesOnWithIt();
        receiverGoesOnWithIt();
        withinABlock();
        CHECK.end();
    }

    private static void lowestBitsAreTaken() {
        CHECK.sentence("A side's state (0 the sender's, 1 the receiver's) is the lowest 58 bits"
                + " of v: what it was");
        long[] given = {1, 1L << 57, 1L << 58, 1L << 63, -1, -2, Long.MIN_VALUE, Long.MAX_VALUE,
            -12, 0x0123456789ABCDEFL, 1L << 32, 1L << 31, 0};
        for (int side = 0; side <= 1; side++) {
            LineBlocks x = new LineBlocks();
            long was = 0;
            for (long v : given) {
                CHECK.due("state(" + side + ", " + v + ")", x.state(side, v), was);
                was = v & 0x3FFFFFFFFFFFFFFL;
            }
        }
    }

    private static void eachSideHasItsOwn() {
        CHECK.sentence("(0 the sender's, 1 the receiver's)");
        LineBlocks x = new LineBlocks();
        CHECK.due("state(0, 5)", x.state(0, 5), 0);
        CHECK.due("state(1, 6)", x.state(1, 6), 0);
        CHECK.due("state(0, 7)", x.state(0, 7), 5);
        CHECK.due("state(1, 8)", x.state(1, 8), 6);
        x.idle(1);
        long sent = Blocks.stateBehind(x, 0);
        CHECK.due("the receiver's when a block has gone out", x.state(1, 9), 8);
        CHECK.due("the sender's then", x.state(0, 10), sent);
        x.receive(66);
        CHECK.due("the sender's when a block has come", x.state(0, 11), 10);
        CHECK.due("the receiver's then", x.state(1, 12), sent);
    }

    private static void othersAreOutside() {
        CHECK.sentence("OUTSIDE (the side is not 0 or 1)");
        LineBlocks x = new LineBlocks();
        x.state(0, 3);
        x.state(1, 4);
        int[] outside = {-1, 2, 3, -2, 256, 257, 1 << 16, Blocks.MIN, Blocks.MAX};
        for (int side : outside) {
            CHECK.due("state(" + side + ", 9)", x.state(side, 9), LineBlocks.OUTSIDE);
        }
        CHECK.due("the sender's is untouched", x.state(0, 0), 3);
        CHECK.due("the receiver's is untouched", x.state(1, 0), 4);
    }

    private static void senderGoesOnWithIt() {
        CHECK.sentence("A side's state (0 the sender's, 1 the receiver's)");
        LineBlocks x = new LineBlocks();
        x.idle(3);
        x.state(0, 0x2AAAAAAAAAAAAAAL);
        x.word(0x01020304, 0x05060708);
        long payload = Blocks.payload(x, 198, 0x2AAAAAAAAAAAAAAL);
        CHECK.due("the payload with that state", payload, 0x0807060504030201L);
        x.state(0, 0);
        x.word(0x01020304, 0x05060708);
        CHECK.due("the payload with 0", Blocks.payload(x, 264, 0), 0x0807060504030201L);
    }

    /** A state that is wrong spoils the payload that it meets and is gone 58 bits later. */
    private static void receiverGoesOnWithIt() {
        CHECK.sentence("A side's state (0 the sender's, 1 the receiver's)");
        LineBlocks x = Blocks.locked();
        x.state(1, x.state(1, 0) ^ 1L << 57);
        x.word(0, 0);
        x.word(0, 0);
        x.receive(132);
        Blocks.isTold(CHECK, x, 0, 1, 0, 0, 0, 0, 0, 0, 0);
        Blocks.isTold(CHECK, x, 1, 0, 0, 0, 0, 0, 0, 0, 0);
        x.state(1, x.state(1, 0) ^ 1);
        x.word(0, 0);
        x.word(0, 0);
        x.receive(132);
        // The latest bit is the one 39 before of bit 38, and the one 58 before of bit 57.
        Blocks.isTold(CHECK, x, 2, 0, 0, 0, 0, 1 << 6, 0, 0, 1 << 1);
        Blocks.isTold(CHECK, x, 3, 0, 0, 0, 0, 0, 0, 0, 0);
    }

    /** Payload bits are in the receiver's state as soon as they have come. */
    private static void withinABlock() {
        CHECK.sentence("THE RECEIVER has those that came");
        LineBlocks x = new LineBlocks();
        Blocks.addAll(x, 1, 1, 1, 0, 1);
        x.receive(2);
        CHECK.due("state behind a head", x.state(1, 0), 0);
        x.receive(1);
        CHECK.due("state behind one payload bit", x.state(1, 1), 1);
        x.receive(2);
        CHECK.due("state behind three", x.state(1, 0), 5);
    }
}
