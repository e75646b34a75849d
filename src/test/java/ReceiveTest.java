/** Promise 10. */
public final class ReceiveTest {
    private static final Check CHECK = new Check("ReceiveTest");

    public static void main(String[] args) {
        takesTheFirst();
        takesAllIfThereAreLess();
        takesFromAnEmptyLine();
        tellsHowManyGroups();
        oneByOne();
        belowZero();
        droppedBitIsOneOfThem();
        CHECK.end();
    }

    private static void takesTheFirst() {
        CHECK.sentence("The receiver takes the first n bits of the line");
        LineBlocks x = new LineBlocks();
        Blocks.addAll(x, 0, 0, 1, 0, 1, 1);
        CHECK.due("receive(0)", x.receive(0), 0);
        CHECK.due("bits() then", x.bits(), 6);
        CHECK.due("receiver(3) then", x.receiver(3), 0);
        CHECK.due("receive(2)", x.receive(2), 0);
        CHECK.due("bits() then", x.bits(), 4);
        CHECK.due("receiver(3) then", x.receiver(3), 2);
        CHECK.due("bit(0) then", x.bit(0), 1);
        CHECK.due("bit(1) then", x.bit(1), 0);
        CHECK.due("receive(1)", x.receive(1), 0);
        CHECK.due("the receiver's state", x.state(1, 0), 1);
        CHECK.due("bit(0) then", x.bit(0), 0);
    }

    private static void takesAllIfThereAreLess() {
        CHECK.sentence("(all, if there are less)");
        int[] asked = {132, 133, 134, 9066, 9067, 1 << 20, Blocks.MAX};
        for (int n : asked) {
            LineBlocks x = Blocks.locked();
            x.idle(2);
            CHECK.due("receive(" + n + ") of 132", x.receive(n), 2);
            CHECK.due("bits() then", x.bits(), 0);
            Blocks.stands(CHECK, x, "then", 1, 0, 0, 0, 2, 0);
        }
        LineBlocks y = Blocks.locked();
        y.idle(2);
        CHECK.due("receive(131) of 132", y.receive(131), 1);
        CHECK.due("bits() then", y.bits(), 1);
        Blocks.stands(CHECK, y, "then", 1, 0, 0, 65, 1, 0);
    }

    private static void takesFromAnEmptyLine() {
        CHECK.sentence("(all, if there are less)");
        LineBlocks x = new LineBlocks();
        CHECK.due("receive(0) of none", x.receive(0), 0);
        CHECK.due("receive(1) of none", x.receive(1), 0);
        CHECK.due("receive(max) of none", x.receive(Blocks.MAX), 0);
        CHECK.due("bits() then", x.bits(), 0);
        Blocks.stands(CHECK, x, "then", 0, 0, 0, 0, 0, 0);
    }

    private static void tellsHowManyGroups() {
        CHECK.sentence("how many groups were told by that");
        LineBlocks x = Blocks.filled(9066);
        CHECK.due("receive(all) of 137 blocks", x.receive(9066), 137 - 64);
        CHECK.due("receive(all) of none", x.receive(9066), 0);
        Blocks.stands(CHECK, x, "then", 1, 0, 0, 24, 73, 0);
        LineBlocks y = Blocks.locked();
        y.idle(5);
        CHECK.due("receive(66)", y.receive(66), 1);
        CHECK.due("receive(197)", y.receive(197), 2);
        CHECK.due("receive(0)", y.receive(0), 0);
        CHECK.due("receive(1)", y.receive(1), 1);
        CHECK.due("receive(67)", y.receive(67), 1);
    }

    private static void oneByOne() {
        CHECK.sentence("The receiver takes the first n bits of the line (all, if there are less):"
                + " how many groups were told by that");
        LineBlocks x = Blocks.locked();
        x.word(0x11223344, 0x55667788);
        x.idle(1);
        for (int k = 1; k <= 132; k++) {
            CHECK.due("receive(1) number " + k, x.receive(1), k % 66 == 0 ? 1 : 0);
            CHECK.due("receiver(3) then", x.receiver(3), k % 66);
        }
        Blocks.isTold(CHECK, x, 0, 0x11, 0x22, 0x33, 0x44, 0x55, 0x66, 0x77, 0x88);
        Blocks.isTold(CHECK, x, 1, 256, 256, 256, 256, 256, 256, 256, 256);
    }

    private static void belowZero() {
        CHECK.sentence("OUTSIDE (n is below 0)");
        LineBlocks x = Blocks.filled(3);
        int[] outside = {-1, -2, -66, Blocks.MIN, Blocks.MIN + 1};
        for (int n : outside) {
            CHECK.due("receive(" + n + ")", x.receive(n), LineBlocks.OUTSIDE);
            CHECK.due("bits() then", x.bits(), 3);
            CHECK.due("receiver(3) then", x.receiver(3), 0);
        }
        LineBlocks y = new LineBlocks();
        CHECK.due("receive(-1) of none", y.receive(-1), LineBlocks.OUTSIDE);
    }

    private static void droppedBitIsOneOfThem() {
        CHECK.sentence("The receiver takes the first n bits of the line");
        LineBlocks x = new LineBlocks();
        x.idle(3);
        x.turn(0);
        x.receive(66);
        CHECK.due("bits() behind a wrong head", x.bits(), 132);
        x.receive(1);
        CHECK.due("bits() behind the dropped bit", x.bits(), 131);
        CHECK.due("receiver(3) then", x.receiver(3), 0);
        LineBlocks y = new LineBlocks();
        y.idle(3);
        y.turn(0);
        y.receive(70);
        CHECK.due("bits() when 70 were taken", y.bits(), 128);
        CHECK.due("receiver(3) then", y.receiver(3), 3);
    }
}
