/** Promises 10 to 12, and promise 5 as far as it is the receiver's. */
public final class ReceiverTest {
    private static final int I = Blocks.IDLE, S = Blocks.START, T = Blocks.END, E = Blocks.ERROR;
    private static final int LOCKED = 0, HITS = 1, SLIPS = 2, HAVE = 3, TOLD = 4, WRONG = 5;
    private static final Check CHECK = new Check("ReceiverTest");

    public static void main(String[] args) {
        locksWithTheSixtyFourthHit();
        wrongHeadWhileUnlocked();
        droppedBitIsNoPartOfAnything();
        findsWhereBlocksBegin();
        bitsOneByOne();
        charactersComeBack();
        readsWhatNoSenderSends();
        wrongHeadsAreErrors();
        sixteenWrongHeadsUnlock();
        sixteenthAtTheEndOfARow();
        rowsAreCountedEachAlone();
        rowBeginsAnewWhenLockedAgain();
        receiversState();
        toldPlaces();
        latestThreeHundred();
        otherNumbers();
        CHECK.end();
    }

    private static void stands(LineBlocks x, String when, int... due) {
        for (int what = 0; what < due.length; what++) {
            CHECK.due("receiver(" + what + ") " + when, x.receiver(what), due[what]);
        }
    }

    private static void isTold(LineBlocks x, int i, int... group) {
        for (int j = 0; j < group.length; j++) {
            CHECK.due("told(" + i + ", " + j + ")", x.told(i, j), group[j]);
        }
    }

    private static void locksWithTheSixtyFourthHit() {
        LineBlocks x = new LineBlocks();
        x.idle(32);
        for (int k = 0; k < 33; k++) {
            x.word(k, k);
        }
        CHECK.due("receive(4223)", x.receive(4223), 0);
        stands(x, "a bit before it locks", 0, 63, 0, 65, 0, 0);
        CHECK.due("receive(1)", x.receive(1), 0);
        stands(x, "when it locks", 1, 0, 0, 0, 0, 0);
        CHECK.due("receive(65)", x.receive(65), 0);
        CHECK.due("receive(1)", x.receive(1), 1);
        stands(x, "with a group told", 1, 0, 0, 0, 1, 0);
        isTold(x, 0, 0, 0, 0, 32, 0, 0, 0, 32);
    }

    private static void wrongHeadWhileUnlocked() {
        LineBlocks x = new LineBlocks();
        x.idle(64);
        x.turn(63 * 66);
        CHECK.due("receive(all)", x.receive(9999), 0);
        stands(x, "behind a head 0 0 as the 64th", 0, 0, 1, 0, 0, 0);
        x.add(1);
        x.add(1);
        x.receive(1);
        stands(x, "with the dropped bit", 0, 0, 1, 0, 0, 0);
        x.receive(1);
        stands(x, "with a bit behind the dropped one", 0, 0, 1, 1, 0, 0);

        LineBlocks y = new LineBlocks();
        y.idle(3);
        y.turn(67);
        y.receive(66);
        stands(y, "behind one hit", 0, 1, 0, 0, 0, 0);
        y.receive(66);
        stands(y, "behind a head 1 1", 0, 0, 1, 0, 0, 0);
        CHECK.due("only what was asked for is taken", y.bits(), 66);
    }

    private static void droppedBitIsNoPartOfAnything() {
        LineBlocks x = new LineBlocks();
        x.idle(1);
        x.turn(0);
        long behind = Blocks.stateBehind(x, 0);
        x.receive(66);
        x.add(1);
        x.receive(1);
        CHECK.due("state(1) behind the dropped bit", x.state(1, behind), behind);
        x.idle(64);
        x.word(-1, 5);
        CHECK.due("groups behind 64 hits", x.receive(9999), 1);
        stands(x, "behind 64 hits", 1, 0, 1, 0, 1, 0);
        isTold(x, 0, 255, 255, 255, 255, 0, 0, 0, 5);
    }

    private static void findsWhereBlocksBegin() {
        LineBlocks x = new LineBlocks();
        // Nothing but 0 is a head 0 0 wherever it looks: 67 bits for each slip.
        for (int k = 0; k < 5 * 67; k++) {
            x.add(0);
        }
        x.receive(9999);
        stands(x, "behind zeros", 0, 0, 5, 0, 0, 0);
        x.idle(64);
        x.word(0x01020304, 0x05060708);
        CHECK.due("receive(all)", x.receive(9999), 1);
        isTold(x, 0, 1, 2, 3, 4, 5, 6, 7, 8);
    }

    private static void bitsOneByOne() {
        LineBlocks x = Blocks.locked();
        x.word(0x11223344, 0x55667788);
        x.idle(1);
        for (int k = 1; k <= 132; k++) {
            CHECK.due("receive(1) number " + k, x.receive(1), k % 66 == 0 ? 1 : 0);
            CHECK.due("bits of a block", x.receiver(HAVE), k % 66);
        }
        isTold(x, 0, 0x11, 0x22, 0x33, 0x44, 0x55, 0x66, 0x77, 0x88);
        isTold(x, 1, I, I, I, I, I, I, I, I);
    }

    private static void charactersComeBack() {
        comesBack(0, 255, 1, 254, 2, 253, 3, 252);
        comesBack(I, I, I, I, I, I, I, I);
        comesBack(E, E, E, E, E, E, E, E);
        comesBack(E, I, I, E, I, E, E, I);
        comesBack(S, 255, 0, 128, 64, 32, 16, 9);
        comesBack(I, E, E, I, S, 255, 0, 128);
        comesBack(E, I, I, E, S, 1, 2, 3);
        comesBack(T, E, I, I, E, E, I, E);
        comesBack(200, T, E, I, I, E, E, I);
        comesBack(200, 201, T, E, I, I, E, E);
        comesBack(200, 201, 202, T, E, I, I, E);
        comesBack(200, 201, 202, 203, T, E, I, E);
        comesBack(200, 201, 202, 203, 204, T, I, E);
        comesBack(200, 201, 202, 203, 204, 205, T, E);
        comesBack(200, 201, 202, 203, 204, 205, T, I);
        comesBack(200, 201, 202, 203, 204, 205, 206, T);
    }

    private static void comesBack(int... group) {
        LineBlocks x = Blocks.locked();
        Blocks.putAll(x, group);
        CHECK.due("receive(66)", x.receive(66), 1);
        isTold(x, 0, group);
    }

    /** The group that is told of a payload behind a head 1 0. */
    private static void isRead(long payload, int... group) {
        LineBlocks x = Blocks.locked();
        Blocks.sendPayload(x, payload);
        x.turn(0);
        x.turn(1);
        CHECK.due("receive(66) of " + Long.toHexString(payload), x.receive(66), 1);
        stands(x, "behind " + Long.toHexString(payload), 1, 0, 0, 0, 1, 0);
        isTold(x, 0, group);
    }

    private static void readsWhatNoSenderSends() {
        long codes = 0;
        long[] each = {0x01, 0x7F, 0x1F, 0x0E, 0x1E, 0x00, 0x5E, 0x00};
        for (int k = 0; k < 8; k++) {
            codes |= each[k] << (8 + 7 * k);
        }
        isRead(codes | 0x1E, E, E, E, E, E, I, E, I);
        isRead(codes & ~0x7FFFL | 0x87, T, E, E, E, E, I, E, I);
        // Bits that should be 0 are 1: 36 .. 39 of 33, and those in front of the codes of an END.
        isRead(0x030201F000000033L, I, I, I, I, S, 1, 2, 3);
        isRead(0x0000000000007F87L, T, I, I, I, I, I, I, I);
        isRead(0x00000000003F0199L, 1, T, I, I, I, I, I, I);
        isRead(0x000000001F0201AAL, 1, 2, T, I, I, I, I, I);
        isRead(0x0000000F030201B4L, 1, 2, 3, T, I, I, I, I);
        isRead(0x0000070403020100L | 0xCC, 1, 2, 3, 4, T, I, I, I);
        isRead(0x0003050403020100L | 0xD2, 1, 2, 3, 4, 5, T, I, I);
        isRead(0x0106050403020100L | 0xE1, 1, 2, 3, 4, 5, 6, T, I);
        isRead(0x0706050403020100L | 0xFF, 1, 2, 3, 4, 5, 6, 7, T);
        int[] noTypes = {0x00, 0x01, 0x1F, 0x2D, 0x4B, 0x55, 0x66, 0x1C, 0x32, 0x79, 0xFE, 0x80};
        for (int type : noTypes) {
            isRead(type, E, E, E, E, E, E, E, E);
            isRead(type | 0x0102030405060700L, E, E, E, E, E, E, E, E);
        }
    }

    private static void wrongHeadsAreErrors() {
        LineBlocks x = Blocks.locked();
        x.word(1, 2);
        x.word(1, 2);
        x.idle(2);
        x.word(3, 4);
        // Both wrong heads, 1 1 and 0 0, of a data block and of one whose type could be read.
        CHECK.due("turn(0)", x.turn(0), 1);
        CHECK.due("turn(67)", x.turn(66 + 1), 0);
        CHECK.due("turn(132)", x.turn(132), 0);
        CHECK.due("turn(199)", x.turn(198 + 1), 1);
        CHECK.due("receive(330)", x.receive(330), 5);
        for (int i = 0; i < 4; i++) {
            isTold(x, i, E, E, E, E, E, E, E, E);
        }
        isTold(x, 4, 0, 0, 0, 3, 0, 0, 0, 4);
        stands(x, "behind four wrong heads", 1, 0, 0, 0, 5, 4);
    }

    /** Sends a block with a wrong head and has it taken. */
    private static int takeWrong(LineBlocks x) {
        x.idle(1);
        x.turn(0);
        return x.receive(66);
    }

    private static int takeRight(LineBlocks x, int n) {
        x.idle(n);
        return x.receive(n * 66);
    }

    private static void sixteenWrongHeadsUnlock() {
        LineBlocks x = Blocks.locked();
        for (int k = 1; k <= 15; k++) {
            CHECK.due("a wrong head", takeWrong(x), 1);
            CHECK.due("a right head", takeRight(x, 1), 1);
            CHECK.due("wrong heads", x.receiver(WRONG), k);
        }
        stands(x, "behind 15 wrong heads", 1, 0, 0, 0, 30, 15);
        CHECK.due("the 16th is told", takeWrong(x), 1);
        stands(x, "behind 16 wrong heads", 0, 0, 1, 0, 31, 0);
        isTold(x, 30, E, E, E, E, E, E, E, E);
        x.add(1);
        x.idle(1);
        CHECK.due("none is told then", x.receive(67), 0);
        stands(x, "behind the slip", 0, 1, 1, 0, 31, 0);
    }

    private static void sixteenthAtTheEndOfARow() {
        LineBlocks x = Blocks.locked();
        takeRight(x, 48);
        for (int k = 0; k < 15; k++) {
            takeWrong(x);
        }
        stands(x, "behind 63 blocks", 1, 0, 0, 0, 63, 15);
        takeWrong(x);
        stands(x, "with the 16th as the 64th", 0, 0, 1, 0, 64, 0);
    }

    private static void rowsAreCountedEachAlone() {
        LineBlocks x = Blocks.locked();
        takeRight(x, 48);
        for (int k = 0; k < 15; k++) {
            takeWrong(x);
        }
        takeRight(x, 1);
        stands(x, "behind a row with 15", 1, 0, 0, 0, 64, 0);
        for (int k = 0; k < 15; k++) {
            takeWrong(x);
        }
        stands(x, "15 into the next row", 1, 0, 0, 0, 79, 15);
        takeRight(x, 48);
        stands(x, "63 into the next row", 1, 0, 0, 0, 127, 15);
        takeWrong(x);
        stands(x, "with the 16th in the next row", 0, 0, 1, 0, 128, 0);
    }

    private static void rowBeginsAnewWhenLockedAgain() {
        LineBlocks x = Blocks.locked();
        takeRight(x, 20);
        for (int k = 0; k < 16; k++) {
            takeWrong(x);
        }
        x.add(0);
        x.receive(1);
        takeRight(x, 64);
        stands(x, "when it is locked again", 1, 0, 1, 0, 36, 0);
        for (int k = 0; k < 15; k++) {
            takeWrong(x);
        }
        takeRight(x, 48);
        stands(x, "63 into the new row", 1, 0, 1, 0, 99, 15);
        takeRight(x, 1);
        stands(x, "behind the new row", 1, 0, 1, 0, 100, 0);
    }

    private static void receiversState() {
        LineBlocks x = Blocks.locked();
        long sent = x.state(0, 0);
        CHECK.due("the receiver has what was sent", x.state(1, 0), sent);
        x.word(0xDEADBEEF, 0x01234567);
        long behind = Blocks.stateBehind(x, 0);
        x.receive(66);
        isTold(x, 0, 0xDE, 0xAD, 0xBE, 0xEF, 0x01, 0x23, 0x45, 0x67);
        CHECK.due("state behind a told block", x.state(1, -1), behind);
        CHECK.due("58 bits are kept", x.state(1, 1L << 58), Blocks.STATE_MASK);
        CHECK.due("and no more", x.state(1, 0), 0);
        CHECK.due("state(2, 0)", x.state(2, 0), LineBlocks.OUTSIDE);
        CHECK.due("state(-1, 0)", x.state(-1, 0), LineBlocks.OUTSIDE);

        // Head bits are no part of the state; payload bits are as soon as they have come.
        LineBlocks y = new LineBlocks();
        for (int k = 0; k < 5; k++) {
            y.add(1);
        }
        y.receive(2);
        CHECK.due("state behind a head", y.state(1, 0), 0);
        y.receive(3);
        CHECK.due("state within a payload", y.state(1, 0), 7);

        // A state that is wrong spoils the payload that it meets and is gone 58 bits later.
        LineBlocks z = Blocks.locked();
        z.state(1, z.state(1, 0) ^ 1L << 57);
        z.word(0, 0);
        z.word(0, 0);
        z.receive(132);
        isTold(z, 0, 1, 0, 0, 0, 0, 0, 0, 0);
        isTold(z, 1, 0, 0, 0, 0, 0, 0, 0, 0);
    }

    private static void toldPlaces() {
        LineBlocks x = Blocks.locked();
        x.word(0x01020304, 0x05060708);
        x.receive(66);
        int[][] none = {{0, -1}, {0, 8}, {-1, 0}, {1, 0}, {0, Integer.MAX_VALUE},
            {0, Integer.MIN_VALUE}, {Integer.MAX_VALUE, 0}, {Integer.MIN_VALUE, 0}, {-300, 0},
            {300, 0}};
        for (int[] p : none) {
            CHECK.due("told(" + p[0] + ", " + p[1] + ")", x.told(p[0], p[1]), LineBlocks.NONE);
        }
        isTold(x, 0, 1, 2, 3, 4, 5, 6, 7, 8);
    }

    private static void latestThreeHundred() {
        LineBlocks x = Blocks.locked();
        for (int k = 0; k < 3; k++) {
            x.word(k, 0);
        }
        x.receive(9999);
        takeRight(x, 100);
        takeRight(x, 100);
        takeRight(x, 96);
        x.word(7, 8);
        CHECK.due("the 300th", x.receive(66), 1);
        isTold(x, 0, 0, 0, 0, 0, 0, 0, 0, 0);
        isTold(x, 299, 0, 0, 0, 7, 0, 0, 0, 8);
        x.word(9, 10);
        CHECK.due("the 301st", x.receive(66), 1);
        CHECK.due("told(0, 3) with 301", x.told(0, 3), LineBlocks.NONE);
        isTold(x, 1, 0, 0, 0, 1, 0, 0, 0, 0);
        isTold(x, 299, 0, 0, 0, 7, 0, 0, 0, 8);
        isTold(x, 300, 0, 0, 0, 9, 0, 0, 0, 10);
        CHECK.due("told(301, 0) with 301", x.told(301, 0), LineBlocks.NONE);
        CHECK.due("groups told", x.receiver(TOLD), 301);
        takeRight(x, 1);
        CHECK.due("told(1, 3) with 302", x.told(1, 3), LineBlocks.NONE);
        isTold(x, 2, 0, 0, 0, 2, 0, 0, 0, 0);
        isTold(x, 3, I, I, I, I, I, I, I, I);
    }

    private static void otherNumbers() {
        LineBlocks x = Blocks.locked();
        int[] outside = {-1, 6, 7, Integer.MIN_VALUE, Integer.MAX_VALUE};
        for (int what : outside) {
            CHECK.due("receiver(" + what + ")", x.receiver(what), LineBlocks.OUTSIDE);
        }
        CHECK.due("locked", x.receiver(LOCKED), 1);
        CHECK.due("hits while locked", x.receiver(HITS), 0);
        CHECK.due("slips", x.receiver(SLIPS), 0);
    }
}
