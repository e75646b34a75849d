/** "Terms": where the receiver finds blocks, and when it is locked. */
public final class LockTest {
    private static final Check CHECK = new Check("LockTest");

    public static void main(String[] args) {
        unlockedAtFirst();
        blocksFromWhereItStands();
        bothHeadsAreHits();
        sixtyFourHits();
        hitsInARow();
        slipsWithBothWrongHeads();
        dropsAsSoonAsThereIsOne();
        dropsOneBitAlone();
        slipsUntilItFits();
        lockedBlocksAreTold();
        sixteenthWrongHead();
        wrongHeadsNeedNotFollow();
        sixteenthAtTheEndOfARow();
        fifteenInEachRow();
        sixteenAcrossTwoRows();
        rowsCountFromTheLock();
        unlockedWithASlip();
        rowBeginsAnew();
        CHECK.end();
    }

    private static void stands(LineBlocks x, String when, int... due) {
        Blocks.stands(CHECK, x, when, due);
    }

    private static void takeWrongs(LineBlocks x, int n) {
        for (int k = 0; k < n; k++) {
            Blocks.takeWrong(x);
        }
    }

    private static void unlockedAtFirst() {
        CHECK.sentence("it is UNLOCKED at first");
        LineBlocks x = new LineBlocks();
        x.idle(1);
        CHECK.due("receive(66)", x.receive(66), 0);
        stands(x, "behind a block", 0, 1, 0, 0, 0, 0);
    }

    private static void blocksFromWhereItStands() {
        CHECK.sentence("Each 66 bits from where it stands are a block");
        LineBlocks x = new LineBlocks();
        x.idle(3);
        x.receive(65);
        stands(x, "behind 65 bits", 0, 0, 0, 65, 0, 0);
        x.receive(1);
        stands(x, "behind 66 bits", 0, 1, 0, 0, 0, 0);
        x.receive(66);
        stands(x, "behind 132 bits", 0, 2, 0, 0, 0, 0);
        // A bit that is no block's moves all blocks behind it.
        LineBlocks y = new LineBlocks();
        Blocks.addAll(y, 1);
        y.idle(1);
        y.receive(66);
        stands(y, "behind a head 1 1 that is none", 0, 0, 1, 0, 0, 0);
    }

    private static void bothHeadsAreHits() {
        CHECK.sentence("with a head 0 1 or 1 0 that is one HIT more");
        LineBlocks x = new LineBlocks();
        x.word(1, 2);
        x.receive(66);
        stands(x, "behind a head 0 1", 0, 1, 0, 0, 0, 0);
        x.idle(1);
        x.receive(66);
        stands(x, "behind a head 1 0", 0, 2, 0, 0, 0, 0);
        // A type that cannot be is no matter: the head alone counts.
        Blocks.sendAlone(x, 1, 0, 0);
        x.receive(66);
        stands(x, "behind another type", 0, 3, 0, 0, 0, 0);
    }

    private static void sixtyFourHits() {
        CHECK.sentence("with 64 hits in a row it is LOCKED (from the next block on)");
        LineBlocks x = new LineBlocks();
        x.idle(32);
        for (int k = 0; k < 33; k++) {
            x.word(k, k);
        }
        CHECK.due("receive(63 blocks)", x.receive(63 * 66), 0);
        stands(x, "behind 63 hits", 0, 63, 0, 0, 0, 0);
        CHECK.due("receive(65)", x.receive(65), 0);
        stands(x, "a bit before it locks", 0, 63, 0, 65, 0, 0);
        CHECK.due("receive(1): the 64th is not told", x.receive(1), 0);
        stands(x, "when it locks", 1, 0, 0, 0, 0, 0);
        CHECK.due("receive(66): the 65th is told", x.receive(66), 1);
        stands(x, "with a group told", 1, 0, 0, 0, 1, 0);
        Blocks.isTold(CHECK, x, 0, 0, 0, 0, 32, 0, 0, 0, 32);
    }

    private static void hitsInARow() {
        CHECK.sentence("Otherwise hits are 0");
        LineBlocks x = new LineBlocks();
        Blocks.takeRight(x, 63);
        Blocks.takeWrong(x);
        stands(x, "with a wrong head as the 64th", 0, 0, 1, 0, 0, 0);
        x.add(0);
        x.receive(1);
        Blocks.takeRight(x, 63);
        stands(x, "behind 63 hits more", 0, 63, 1, 0, 0, 0);
        Blocks.takeRight(x, 1);
        stands(x, "behind 64 hits in a row", 1, 0, 1, 0, 0, 0);
    }

    private static void slipsWithBothWrongHeads() {
        CHECK.sentence("Otherwise hits are 0, and it SLIPS");
        for (int bit = 0; bit <= 1; bit++) {
            LineBlocks x = new LineBlocks();
            Blocks.takeRight(x, 2);
            Blocks.sendAlone(x, bit, bit, 0x0102030405060708L);
            x.receive(66);
            stands(x, "behind a head " + bit + " " + bit, 0, 0, 1, 0, 0, 0);
        }
    }

    private static void dropsAsSoonAsThereIsOne() {
        CHECK.sentence("one bit more of the line is dropped (as soon as there is one)");
        LineBlocks x = new LineBlocks();
        Blocks.takeWrong(x);
        x.receive(5);
        stands(x, "while nothing is on the line", 0, 0, 1, 0, 0, 0);
        Blocks.addAll(x, 1, 1, 0);
        x.receive(0);
        stands(x, "when none is taken", 0, 0, 1, 0, 0, 0);
        x.receive(1);
        stands(x, "behind the dropped bit", 0, 0, 1, 0, 0, 0);
        x.receive(1);
        stands(x, "a bit later", 0, 0, 1, 1, 0, 0);
    }

    private static void dropsOneBitAlone() {
        CHECK.sentence("one bit more of the line is dropped");
        LineBlocks x = new LineBlocks();
        x.idle(1);
        x.turn(0);
        Blocks.addAll(x, 0);
        x.idle(64);
        x.word(0x01020304, 0x05060708);
        CHECK.due("receive(all)", x.receive(9999), 1);
        stands(x, "behind 64 hits", 1, 0, 1, 0, 1, 0);
        Blocks.isTold(CHECK, x, 0, 1, 2, 3, 4, 5, 6, 7, 8);
    }

    private static void slipsUntilItFits() {
        CHECK.sentence("Otherwise hits are 0, and it SLIPS");
        LineBlocks x = new LineBlocks();
        // Nothing but 0 is a head 0 0 wherever it looks: 67 bits for each slip.
        for (int k = 0; k < 5 * 67; k++) {
            x.add(0);
        }
        x.receive(9999);
        stands(x, "behind zeros", 0, 0, 5, 0, 0, 0);
        x.idle(64);
        x.word(0x01020304, 0x05060708);
        CHECK.due("receive(all)", x.receive(9999), 1);
        Blocks.isTold(CHECK, x, 0, 1, 2, 3, 4, 5, 6, 7, 8);
    }

    private static void lockedBlocksAreTold() {
        CHECK.sentence("LOCKED: the block is told as a group");
        LineBlocks x = Blocks.locked();
        x.word(1, 2);
        x.idle(1);
        Blocks.sendPayload(x, 3);
        x.turn(132);
        CHECK.due("receive(198)", x.receive(198), 3);
        Blocks.isTold(CHECK, x, 0, 0, 0, 0, 1, 0, 0, 0, 2);
        Blocks.isTold(CHECK, x, 1, 256, 256, 256, 256, 256, 256, 256, 256);
        Blocks.isTold(CHECK, x, 2, Blocks.ERRORS);
        stands(x, "behind three blocks", 1, 0, 0, 0, 3, 1);
    }

    private static void sixteenthWrongHead() {
        CHECK.sentence("with the 16th head that is 0 0 or 1 1 it is unlocked, and slips");
        for (int bit = 0; bit <= 1; bit++) {
            LineBlocks x = Blocks.locked();
            for (int k = 1; k <= 15; k++) {
                Blocks.sendAlone(x, bit, bit, k);
                CHECK.due("wrong head " + k, x.receive(66), 1);
            }
            stands(x, "behind 15 heads " + bit + " " + bit, 1, 0, 0, 0, 15, 15);
            Blocks.sendAlone(x, bit, bit, 16);
            CHECK.due("the 16th is told", x.receive(66), 1);
            stands(x, "behind 16 heads " + bit + " " + bit, 0, 0, 1, 0, 16, 0);
            Blocks.isTold(CHECK, x, 15, Blocks.ERRORS);
        }
    }

    private static void wrongHeadsNeedNotFollow() {
        CHECK.sentence("In each row of 64 blocks since it got locked: with the 16th head");
        LineBlocks x = Blocks.locked();
        for (int k = 1; k <= 15; k++) {
            Blocks.takeRight(x, 3);
            Blocks.takeWrong(x);
        }
        stands(x, "behind 15 of 60", 1, 0, 0, 0, 60, 15);
        Blocks.takeRight(x, 2);
        Blocks.takeWrong(x);
        stands(x, "behind 16 of 63", 0, 0, 1, 0, 63, 0);
    }

    private static void sixteenthAtTheEndOfARow() {
        CHECK.sentence("In each row of 64 blocks since it got locked: with the 16th head");
        LineBlocks x = Blocks.locked();
        Blocks.takeRight(x, 48);
        takeWrongs(x, 15);
        stands(x, "behind 63 blocks", 1, 0, 0, 0, 63, 15);
        takeWrongs(x, 1);
        stands(x, "with the 16th as the 64th", 0, 0, 1, 0, 64, 0);
    }

    private static void fifteenInEachRow() {
        CHECK.sentence("In each row of 64 blocks since it got locked: with the 16th head");
        LineBlocks x = Blocks.locked();
        for (int row = 1; row <= 3; row++) {
            takeWrongs(x, 15);
            stands(x, "15 into row " + row, 1, 0, 0, 0, row * 64 - 49, 15);
            Blocks.takeRight(x, 49);
            stands(x, "behind row " + row, 1, 0, 0, 0, row * 64, 0);
        }
        takeWrongs(x, 16);
        stands(x, "16 into row 4", 0, 0, 1, 0, 208, 0);
    }

    private static void sixteenAcrossTwoRows() {
        CHECK.sentence("In each row of 64 blocks since it got locked: with the 16th head");
        LineBlocks x = Blocks.locked();
        Blocks.takeRight(x, 49);
        takeWrongs(x, 15);
        stands(x, "with the 15th as the 64th", 1, 0, 0, 0, 64, 0);
        takeWrongs(x, 15);
        stands(x, "behind 30 wrong heads", 1, 0, 0, 0, 79, 15);
        Blocks.takeRight(x, 48);
        stands(x, "behind 63 of the second row", 1, 0, 0, 0, 127, 15);
        takeWrongs(x, 1);
        stands(x, "with the 16th of the second row", 0, 0, 1, 0, 128, 0);
    }

    /** Blocks that came before the lock are in no row, whether they were hits or not. */
    private static void rowsCountFromTheLock() {
        CHECK.sentence("In each row of 64 blocks since it got locked");
        LineBlocks x = new LineBlocks();
        Blocks.takeRight(x, 10);
        Blocks.takeWrong(x);
        x.add(0);
        x.receive(1);
        Blocks.takeRight(x, 64);
        takeWrongs(x, 15);
        Blocks.takeRight(x, 48);
        stands(x, "behind 63 blocks", 1, 0, 1, 0, 63, 15);
        Blocks.takeRight(x, 1);
        stands(x, "behind 64 blocks", 1, 0, 1, 0, 64, 0);
    }

    private static void unlockedWithASlip() {
        CHECK.sentence("it is unlocked, and slips; hits are 0");
        LineBlocks x = Blocks.locked();
        takeWrongs(x, 16);
        Blocks.addAll(x, 1);
        x.idle(1);
        CHECK.due("receive(1)", x.receive(1), 0);
        stands(x, "behind the dropped bit", 0, 0, 1, 0, 16, 0);
        CHECK.due("receive(66): none is told", x.receive(66), 0);
        stands(x, "behind a hit", 0, 1, 1, 0, 16, 0);
        Blocks.takeRight(x, 62);
        stands(x, "behind 63 hits", 0, 63, 1, 0, 16, 0);
        Blocks.takeRight(x, 1);
        stands(x, "behind 64 hits", 1, 0, 1, 0, 16, 0);
    }

    private static void rowBeginsAnew() {
        CHECK.sentence("(and a row begins anew when it is locked again)");
        LineBlocks x = Blocks.locked();
        Blocks.takeRight(x, 20);
        takeWrongs(x, 16);
        x.add(0);
        x.receive(1);
        Blocks.takeRight(x, 64);
        stands(x, "when it is locked again", 1, 0, 1, 0, 36, 0);
        takeWrongs(x, 15);
        Blocks.takeRight(x, 48);
        stands(x, "63 into the new row", 1, 0, 1, 0, 99, 15);
        Blocks.takeRight(x, 1);
        stands(x, "behind the new row", 1, 0, 1, 0, 100, 0);
    }
}
