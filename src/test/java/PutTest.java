/** Promise 2. */
public final class PutTest {
    private static final Check CHECK = new Check("PutTest");

    public static void main(String[] args) {
        eighthGoesOut();
        everyCharacterIsTaken();
        othersAreOutside();
        roomForTheEighth();
        roomForTheOthers();
        outsideWithoutRoom();
        CHECK.end();
    }

    private static void eighthGoesOut() {
        CHECK.sentence("with the eighth one the group goes out as a block onto the line:"
                + " how many characters wait then (0 .. 7)");
        LineBlocks x = new LineBlocks();
        for (int k = 1; k <= 24; k++) {
            CHECK.due("put number " + k, x.put(k), k % 8);
            CHECK.due("bits() behind it", x.bits(), k / 8 * 66);
        }
        CHECK.due("the first group", Blocks.payload(x, 0, 0), 0x0807060504030201L);
        long first = Blocks.stateBehind(x, 0);
        CHECK.due("the second group", Blocks.payload(x, 66, first), 0x100F0E0D0C0B0A09L);
        long second = Blocks.stateBehind(x, 66);
        CHECK.due("the third group", Blocks.payload(x, 132, second), 0x1817161514131211L);
    }

    private static void everyCharacterIsTaken() {
        CHECK.sentence("OUTSIDE (0 .. 259)");
        LineBlocks x = new LineBlocks();
        for (int c = 0; c <= 259; c++) {
            CHECK.due("put(" + c + ")", x.put(c), (c + 1) % 8);
        }
    }

    private static void othersAreOutside() {
        CHECK.sentence("OUTSIDE (0 .. 259)");
        int[] outside = {-1, 260, -2, 261, -256, 512, Blocks.MIN, Blocks.MAX, 1 << 16, 1 << 9};
        for (int waiting = 0; waiting < 8; waiting++) {
            LineBlocks x = Blocks.waiting(waiting);
            for (int c : outside) {
                CHECK.due("put(" + c + ")", x.put(c), LineBlocks.OUTSIDE);
            }
            CHECK.due("bits() then", x.bits(), 0);
            CHECK.due("put(0) then", x.put(0), (waiting + 1) % 8);
        }
    }

    private static void roomForTheEighth() {
        CHECK.sentence("ROOM (it would be the eighth one, and 9000 bits or more are on the line)");
        int[] full = {9000, 9001, 9065, 9066};
        for (int bits : full) {
            LineBlocks x = Blocks.filled(bits);
            long before = Blocks.senderState(x);
            CHECK.due("seven puts", Blocks.putAll(x, 1, 2, 3, 4, 5, 6, 7), 7);
            CHECK.due("the eighth with " + bits, x.put(8), LineBlocks.ROOM);
            CHECK.due("bits() then", x.bits(), bits);
            x.receive(bits - 8999);
            CHECK.due("the eighth with 8999", x.put(9), 0);
            CHECK.due("bits() then", x.bits(), 9065);
            x.receive(8999);
            CHECK.due("the group", Blocks.payload(x, 0, before), 0x0907060504030201L);
        }
    }

    private static void roomForTheOthers() {
        CHECK.sentence("ROOM (it would be the eighth one, and 9000 bits or more are on the line)");
        LineBlocks x = Blocks.filled(9066);
        for (int k = 1; k <= 7; k++) {
            CHECK.due("put number " + k + " with 9066", x.put(259), k);
        }
        CHECK.due("the eighth with 9066", x.put(259), LineBlocks.ROOM);
        CHECK.due("bits() then", x.bits(), 9066);
    }

    private static void outsideWithoutRoom() {
        CHECK.sentence("OUTSIDE (0 .. 259), ROOM");
        LineBlocks x = Blocks.filled(9066);
        Blocks.putAll(x, 1, 2, 3, 4, 5, 6, 7);
        CHECK.due("put(-1) as the eighth with 9066", x.put(-1), LineBlocks.OUTSIDE);
        CHECK.due("put(260) as the eighth with 9066", x.put(260), LineBlocks.OUTSIDE);
    }
}
