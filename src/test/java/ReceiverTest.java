/** Promise 12. */
public final class ReceiverTest {
    private static final int LOCKED = 0, HITS = 1, SLIPS = 2, HAVE = 3, TOLD = 4, WRONG = 5;
    private static final Check CHECK = new Check("ReceiverTest");

    public static void main(String[] args) {
        whetherLocked();
        hitsWhileUnlocked();
        howOftenItSlipped();
        bitsOfABlock();
        groupsTold();
        wrongHeadsInThisRow();
        othersAreOutside();
        CHECK.end();
    }

    private static void whetherLocked() {
        CHECK.sentence("0 whether it is locked (0, 1)");
        LineBlocks x = Blocks.filled(64 * 66);
        CHECK.due("receiver(0) of a new object", x.receiver(LOCKED), 0);
        x.receive(64 * 66 - 1);
        CHECK.due("receiver(0) a bit before", x.receiver(LOCKED), 0);
        x.receive(1);
        CHECK.due("receiver(0) behind 64 hits", x.receiver(LOCKED), 1);
        for (int k = 1; k <= 16; k++) {
            CHECK.due("receiver(0) before wrong head " + k, x.receiver(LOCKED), 1);
            Blocks.takeWrong(x);
        }
        CHECK.due("receiver(0) behind 16 wrong heads", x.receiver(LOCKED), 0);
    }

    private static void hitsWhileUnlocked() {
        CHECK.sentence("1 hits (while it is unlocked; 0 otherwise)");
        LineBlocks x = new LineBlocks();
        for (int k = 1; k <= 63; k++) {
            Blocks.takeRight(x, 1);
            CHECK.due("receiver(1) behind " + k, x.receiver(HITS), k);
        }
        x.idle(1);
        x.receive(65);
        CHECK.due("receiver(1) a bit before the 64th", x.receiver(HITS), 63);
        x.receive(1);
        CHECK.due("receiver(1) when it is locked", x.receiver(HITS), 0);
        Blocks.takeRight(x, 2);
        CHECK.due("receiver(1) two blocks later", x.receiver(HITS), 0);
        for (int k = 0; k < 16; k++) {
            Blocks.takeWrong(x);
        }
        CHECK.due("receiver(1) when it is unlocked again", x.receiver(HITS), 0);
        x.add(0);
        x.receive(1);
        Blocks.takeRight(x, 1);
        CHECK.due("receiver(1) a block later", x.receiver(HITS), 1);
    }

    private static void howOftenItSlipped() {
        CHECK.sentence("2 how often it slipped");
        LineBlocks x = new LineBlocks();
        for (int k = 1; k <= 3; k++) {
            Blocks.takeWrong(x);
            CHECK.due("receiver(2) with wrong head " + k, x.receiver(SLIPS), k);
            x.add(1);
            x.receive(1);
            CHECK.due("receiver(2) behind its dropped bit", x.receiver(SLIPS), k);
        }
        Blocks.takeRight(x, 64);
        CHECK.due("receiver(2) when it is locked", x.receiver(SLIPS), 3);
        for (int k = 0; k < 15; k++) {
            Blocks.takeWrong(x);
        }
        CHECK.due("receiver(2) behind 15 wrong heads", x.receiver(SLIPS), 3);
        Blocks.takeWrong(x);
        CHECK.due("receiver(2) behind 16 wrong heads", x.receiver(SLIPS), 4);
    }

    private static void bitsOfABlock() {
        CHECK.sentence("3 how many bits of a block it has");
        LineBlocks x = new LineBlocks();
        x.idle(1);
        x.idle(1);
        x.turn(66);
        for (int k = 1; k <= 132; k++) {
            x.receive(1);
            CHECK.due("receiver(3) behind " + k, x.receiver(HAVE), k % 66);
        }
        Blocks.addAll(x, 1, 1);
        x.receive(1);
        CHECK.due("receiver(3) behind a dropped bit", x.receiver(HAVE), 0);
        x.receive(1);
        CHECK.due("receiver(3) a bit later", x.receiver(HAVE), 1);
    }

    private static void groupsTold() {
        CHECK.sentence("4 how many groups were told");
        LineBlocks x = Blocks.locked();
        CHECK.due("receiver(4) when it is locked", x.receiver(TOLD), 0);
        x.idle(1);
        x.receive(65);
        CHECK.due("receiver(4) a bit before", x.receiver(TOLD), 0);
        x.receive(1);
        CHECK.due("receiver(4) behind a block", x.receiver(TOLD), 1);
        for (int k = 1; k <= 16; k++) {
            Blocks.takeWrong(x);
            CHECK.due("receiver(4) with wrong head " + k, x.receiver(TOLD), k + 1);
        }
        x.add(0);
        x.receive(1);
        Blocks.takeRight(x, 64);
        CHECK.due("receiver(4) while it was unlocked", x.receiver(TOLD), 17);
        Blocks.takeRight(x, 100);
        Blocks.takeRight(x, 100);
        Blocks.takeRight(x, 100);
        CHECK.due("receiver(4) beyond 300", x.receiver(TOLD), 317);
    }

    private static void wrongHeadsInThisRow() {
        CHECK.sentence("5 heads that cannot be in this row of 64 (0 while it is unlocked)");
        LineBlocks x = new LineBlocks();
        Blocks.takeWrong(x);
        CHECK.due("receiver(5) while it is unlocked", x.receiver(WRONG), 0);
        x.add(0);
        x.receive(1);
        Blocks.takeRight(x, 64);
        CHECK.due("receiver(5) when it is locked", x.receiver(WRONG), 0);
        for (int k = 1; k <= 15; k++) {
            Blocks.takeWrong(x);
            CHECK.due("receiver(5) with wrong head " + k, x.receiver(WRONG), k);
        }
        Blocks.takeRight(x, 48);
        CHECK.due("receiver(5) behind 63 blocks", x.receiver(WRONG), 15);
        Blocks.takeRight(x, 1);
        CHECK.due("receiver(5) behind 64 blocks", x.receiver(WRONG), 0);
        for (int k = 1; k <= 15; k++) {
            Blocks.takeWrong(x);
        }
        CHECK.due("receiver(5) in the next row", x.receiver(WRONG), 15);
        Blocks.takeWrong(x);
        CHECK.due("receiver(5) when it is unlocked again", x.receiver(WRONG), 0);
    }

    private static void othersAreOutside() {
        CHECK.sentence("OUTSIDE for others");
        LineBlocks x = Blocks.locked();
        int[] outside = {-1, 6, 7, -2, 256, 1 << 16, Blocks.MIN, Blocks.MAX};
        for (int what : outside) {
            CHECK.due("receiver(" + what + ")", x.receiver(what), LineBlocks.OUTSIDE);
        }
        Blocks.stands(CHECK, x, "then", 1, 0, 0, 0, 0, 0);
    }
}
