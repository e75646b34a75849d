/** Promises 6 to 9. */
public final class LineTest {
    private static final Check CHECK = new Check("LineTest");

    public static void main(String[] args) {
        countsBits();
        bitsInTheirOrder();
        bitsThatAreNotThere();
        turns();
        turnsThatAreOutside();
        turnIsOfTheLineAlone();
        addsBehindAllOthers();
        addedBitsThatAreOutside();
        addedBitsWithoutRoom();
        outsideWithoutRoom();
        orderStaysHoweverManyWentBy();
        fullLineIsUsedAgain();
        CHECK.end();
    }

    private static void countsBits() {
        CHECK.sentence("How many bits are on the line");
        LineBlocks x = new LineBlocks();
        CHECK.due("bits() of none", x.bits(), 0);
        x.add(0);
        CHECK.due("bits() with an added one", x.bits(), 1);
        x.idle(2);
        CHECK.due("bits() with two blocks", x.bits(), 133);
        x.turn(5);
        CHECK.due("bits() with a turned bit", x.bits(), 133);
        x.receive(132);
        CHECK.due("bits() when 132 were taken", x.bits(), 1);
        x.receive(1);
        CHECK.due("bits() when all were taken", x.bits(), 0);
        CHECK.due("bits() of a full line", Blocks.filled(9066).bits(), 9066);
    }

    private static void bitsInTheirOrder() {
        CHECK.sentence("Bit i (0 the first) on the line");
        LineBlocks x = new LineBlocks();
        int[] given = {1, 0, 0, 1, 1, 1, 0, 1};
        Blocks.addAll(x, given);
        x.idle(1);
        for (int k = 0; k < given.length; k++) {
            CHECK.due("bit(" + k + ")", x.bit(k), given[k]);
        }
        CHECK.due("head of the block behind", Blocks.head(x, 8), 10);
        CHECK.due("payload of the block behind", Blocks.payload(x, 8, 0), 0x1E);
        x.receive(3);
        for (int k = 3; k < given.length; k++) {
            CHECK.due("bit(" + (k - 3) + ") when three were taken", x.bit(k - 3), given[k]);
        }
    }

    private static void bitsThatAreNotThere() {
        CHECK.sentence("NONE when there is none such");
        int[] sizes = {0, 1, 66, 9065, 9066};
        for (int size : sizes) {
            LineBlocks x = Blocks.filled(size);
            int[] none = {-1, size, size + 1, -size - 1, 9066, 9088, Blocks.MIN, Blocks.MAX};
            for (int i : none) {
                CHECK.due("bit(" + i + ") of " + size, x.bit(i), LineBlocks.NONE);
            }
            CHECK.isTrue("bit(last) of " + size, size == 0 || x.bit(size - 1) >= 0);
            CHECK.isTrue("bit(0) of " + size, size == 0 || x.bit(0) >= 0);
            x.receive(size);
            CHECK.due("bit(0) when all were taken", x.bit(0), LineBlocks.NONE);
            CHECK.due("bit(-1) when all were taken", x.bit(-1), LineBlocks.NONE);
        }
    }

    private static void turns() {
        CHECK.sentence("Bit i on the line is turned: what it is now");
        LineBlocks x = Blocks.filled(9064);
        Blocks.addAll(x, 1, 0);
        int[] places = {9065, 0, 9064, 1};
        int[] were = {0, 1, 1, 0};
        for (int k = 0; k < 4; k++) {
            int i = places[k];
            CHECK.due("bit(" + i + ")", x.bit(i), were[k]);
            CHECK.due("turn(" + i + ")", x.turn(i), 1 - were[k]);
            CHECK.due("bit(" + i + ") then", x.bit(i), 1 - were[k]);
        }
        for (int k = 0; k < 4; k++) {
            CHECK.due("turn(" + places[k] + ") again", x.turn(places[k]), were[k]);
            CHECK.due("bit(" + places[k] + ") then", x.bit(places[k]), were[k]);
        }
        x.receive(9064);
        CHECK.due("turn(0) when 9064 were taken", x.turn(0), 0);
        CHECK.due("bit(1) then", x.bit(1), 0);
    }

    private static void turnsThatAreOutside() {
        CHECK.sentence("what it is now. OUTSIDE");
        int[] sizes = {0, 1, 66, 9065, 9066};
        for (int size : sizes) {
            LineBlocks x = Blocks.filled(size);
            int[] outside = {-1, size, size + 1, -size - 1, 9066, 9088, Blocks.MIN, Blocks.MAX};
            for (int i : outside) {
                CHECK.due("turn(" + i + ") of " + size, x.turn(i), LineBlocks.OUTSIDE);
            }
            x.receive(size);
            CHECK.due("turn(0) when all were taken", x.turn(0), LineBlocks.OUTSIDE);
            CHECK.due("turn(-1) when all were taken", x.turn(-1), LineBlocks.OUTSIDE);
        }
        // What is turned outside must not be turned when it comes onto the line, either.
        LineBlocks y = new LineBlocks();
        y.turn(0);
        y.add(0);
        y.turn(1);
        y.add(1);
        CHECK.due("bit(0)", y.bit(0), 0);
        CHECK.due("bit(1)", y.bit(1), 1);
    }

    private static void turnIsOfTheLineAlone() {
        CHECK.sentence("THE SCRAMBLER has the last 58 bits that went out of payloads");
        LineBlocks x = new LineBlocks();
        x.idle(1);
        long sent = Blocks.stateBehind(x, 0);
        x.turn(65);
        x.turn(40);
        CHECK.due("the sender's state", x.state(0, 0), sent);
    }

    private static void addsBehindAllOthers() {
        CHECK.sentence("A bit (0 or 1) comes behind all others: how many there are");
        LineBlocks x = new LineBlocks();
        CHECK.due("add(1)", x.add(1), 1);
        CHECK.due("add(0)", x.add(0), 2);
        x.idle(1);
        CHECK.due("add(1) behind a block", x.add(1), 69);
        CHECK.due("bit(68)", x.bit(68), 1);
        CHECK.due("bit(2) is the block's", x.bit(2), 1);
        x.receive(60);
        CHECK.due("add(0) when 60 were taken", x.add(0), 10);
        CHECK.due("bit(9)", x.bit(9), 0);
        LineBlocks y = new LineBlocks();
        y.idle(1);
        CHECK.due("the sender's state has no added bits", x.state(0, 0), y.state(0, 0));
    }

    private static void addedBitsThatAreOutside() {
        CHECK.sentence("A bit (0 or 1)");
        LineBlocks x = new LineBlocks();
        int[] outside = {-1, 2, 3, -2, 256, 257, 1 << 16, Blocks.MIN, Blocks.MAX};
        for (int b : outside) {
            CHECK.due("add(" + b + ")", x.add(b), LineBlocks.OUTSIDE);
            CHECK.due("bits() then", x.bits(), 0);
        }
    }

    private static void addedBitsWithoutRoom() {
        CHECK.sentence("ROOM (9066 are there)");
        LineBlocks x = Blocks.filled(9065);
        CHECK.due("add(1) with 9065", x.add(1), 9066);
        CHECK.due("add(1) with 9066", x.add(1), LineBlocks.ROOM);
        CHECK.due("add(0) with 9066", x.add(0), LineBlocks.ROOM);
        CHECK.due("bits() then", x.bits(), 9066);
        CHECK.due("bit(9065) then", x.bit(9065), 1);
        CHECK.due("bit(0) then", x.bit(0), 1);
        x.receive(1);
        CHECK.due("add(0) when one was taken", x.add(0), 9066);
        CHECK.due("bit(9065) then", x.bit(9065), 0);
        CHECK.due("bit(9064) then", x.bit(9064), 1);
        LineBlocks y = Blocks.filled(9000);
        CHECK.due("add(1) with 9000", y.add(1), 9001);
    }

    private static void outsideWithoutRoom() {
        CHECK.sentence("OUTSIDE, ROOM (9066 are there)");
        LineBlocks x = Blocks.filled(9066);
        CHECK.due("add(2) with 9066", x.add(2), LineBlocks.OUTSIDE);
        CHECK.due("add(-1) with 9066", x.add(-1), LineBlocks.OUTSIDE);
    }

    /** More bits than the line can hold at once go by, twice over. */
    private static void orderStaysHoweverManyWentBy() {
        CHECK.sentence("Bit i (0 the first) on the line");
        LineBlocks x = new LineBlocks();
        for (int k = 0; k < 100; k++) {
            x.idle(3);
            CHECK.due("add", x.add(k % 2), 199);
            CHECK.due("bit(198)", x.bit(198), k % 2);
            x.receive(199);
        }
        x.state(0, 0);
        x.word(0x0F1E2D3C, 0x4B5A6978);
        CHECK.due("head", Blocks.head(x, 0), 1);
        CHECK.due("payload", Blocks.payload(x, 0, 0), 0x78695A4B3C2D1E0FL);
    }

    private static void fullLineIsUsedAgain() {
        CHECK.sentence("Bit i (0 the first) on the line");
        LineBlocks x = Blocks.filled(9066);
        x.receive(9000);
        CHECK.due("idle(100) behind 66", x.idle(100), 6666);
        x.state(0, 0);
        x.word(0x0F1E2D3C, 0x4B5A6978);
        CHECK.due("head", Blocks.head(x, 6666), 1);
        CHECK.due("payload", Blocks.payload(x, 6666, 0), 0x78695A4B3C2D1E0FL);
        x.receive(6666);
        CHECK.due("head at the front", Blocks.head(x, 0), 1);
        CHECK.due("payload at the front", Blocks.payload(x, 0, 0), 0x78695A4B3C2D1E0FL);
    }
}
