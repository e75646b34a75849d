/** Promises 6 to 9, and the room that the promises 2 to 4 ask for. */
public final class LineTest {
    private static final Check CHECK = new Check("LineTest");

    public static void main(String[] args) {
        bitsInTheirOrder();
        placesThatAreNotThere();
        turning();
        adding();
        takingFromTheFront();
        orderStaysWhenTheLineIsUsedAgain();
        roomForPut();
        roomForWord();
        roomForIdle();
        CHECK.end();
    }

    private static void bitsInTheirOrder() {
        LineBlocks x = new LineBlocks();
        int[] given = {1, 0, 0, 1, 1, 1, 0, 1};
        for (int k = 0; k < given.length; k++) {
            CHECK.due("add number " + k, x.add(given[k]), k + 1);
            CHECK.due("bits() then", x.bits(), k + 1);
        }
        for (int k = 0; k < given.length; k++) {
            CHECK.due("bit(" + k + ")", x.bit(k), given[k]);
        }
        x.idle(1);
        CHECK.due("bits() with a block behind", x.bits(), 74);
        CHECK.due("first head bit of the block", x.bit(8), 1);
        CHECK.due("second head bit of the block", x.bit(9), 0);
        CHECK.due("added bits are no part of the sender's state",
                Blocks.payload(x, 8, 0), 0x1E);
    }

    private static void placesThatAreNotThere() {
        LineBlocks x = new LineBlocks();
        x.add(1);
        int[] none = {-1, 1, 2, 9066, 9088, Integer.MIN_VALUE, Integer.MAX_VALUE};
        for (int i : none) {
            CHECK.due("bit(" + i + ") of one", x.bit(i), LineBlocks.NONE);
            CHECK.due("turn(" + i + ") of one", x.turn(i), LineBlocks.OUTSIDE);
        }
        CHECK.due("bit(0) of one", x.bit(0), 1);
        x.receive(1);
        CHECK.due("bit(0) of none", x.bit(0), LineBlocks.NONE);
        CHECK.due("turn(0) of none", x.turn(0), LineBlocks.OUTSIDE);
    }

    private static void turning() {
        LineBlocks x = new LineBlocks();
        x.idle(2);
        CHECK.due("turn(0)", x.turn(0), 0);
        CHECK.due("bit(0) then", x.bit(0), 0);
        CHECK.due("turn(0) again", x.turn(0), 1);
        CHECK.due("bit(0) then", x.bit(0), 1);
        CHECK.due("turn(131)", x.turn(131), 1 - lastOfTwoIdles());
        CHECK.due("bit(131) then", x.bit(131), 1 - lastOfTwoIdles());
        CHECK.due("bit(1) is untouched", x.bit(1), 0);
        CHECK.due("bits() stays", x.bits(), 132);
        long sent = x.state(0, 0);
        CHECK.due("the sender's state is what went out", sent & 1, lastOfTwoIdles());
    }

    private static int lastOfTwoIdles() {
        LineBlocks x = new LineBlocks();
        x.idle(2);
        return x.bit(131);
    }

    private static void adding() {
        LineBlocks x = new LineBlocks();
        int[] outside = {-1, 2, 3, Integer.MIN_VALUE, Integer.MAX_VALUE};
        for (int b : outside) {
            CHECK.due("add(" + b + ")", x.add(b), LineBlocks.OUTSIDE);
        }
        fillTo(x, 9065);
        CHECK.due("add behind 9065", x.add(1), 9066);
        CHECK.due("add behind 9066", x.add(1), LineBlocks.ROOM);
        CHECK.due("add(2) behind 9066", x.add(2), LineBlocks.OUTSIDE);
        CHECK.due("bit(9065)", x.bit(9065), 1);
        CHECK.due("turn(9065)", x.turn(9065), 0);
        CHECK.due("bit(9066)", x.bit(9066), LineBlocks.NONE);
        x.receive(1);
        CHECK.due("add when one was taken", x.add(0), 9066);
    }

    private static void takingFromTheFront() {
        LineBlocks x = new LineBlocks();
        int[] given = {0, 0, 1, 0, 1, 1};
        for (int b : given) {
            x.add(b);
        }
        CHECK.due("receive(0)", x.receive(0), 0);
        CHECK.due("bits() then", x.bits(), 6);
        CHECK.due("receive(2)", x.receive(2), 0);
        CHECK.due("bits() then", x.bits(), 4);
        for (int k = 0; k < 4; k++) {
            CHECK.due("bit(" + k + ") behind two", x.bit(k), given[k + 2]);
        }
        CHECK.due("turn(0) behind two", x.turn(0), 0);
        CHECK.due("receive(max)", x.receive(Integer.MAX_VALUE), 0);
        CHECK.due("bits() then", x.bits(), 0);
        CHECK.due("bits of a block", x.receiver(3), 6);
        CHECK.due("receive(-1)", x.receive(-1), LineBlocks.OUTSIDE);
        CHECK.due("receive(min)", x.receive(Integer.MIN_VALUE), LineBlocks.OUTSIDE);
    }

    private static void orderStaysWhenTheLineIsUsedAgain() {
        LineBlocks x = new LineBlocks();
        fillTo(x, 9066);
        x.receive(9000);
        x.word(-1, 0x12345678);
        x.state(0, 0);
        x.word(0x0F1E2D3C, 0x4B5A6978);
        CHECK.due("bits()", x.bits(), 198);
        CHECK.due("head", Blocks.head(x, 132), 1);
        CHECK.due("payload", Blocks.payload(x, 132, 0), 0x78695A4B3C2D1E0FL);
        x.receive(132);
        CHECK.due("head at the front", Blocks.head(x, 0), 1);
        CHECK.due("payload at the front", Blocks.payload(x, 0, 0), 0x78695A4B3C2D1E0FL);
    }

    private static void roomForPut() {
        LineBlocks x = new LineBlocks();
        fillTo(x, 8999);
        CHECK.due("seven puts", Blocks.putAll(x, 1, 1, 1, 1, 1, 1, 1), 7);
        CHECK.due("the eighth with 8999", x.put(1), 0);
        CHECK.due("bits() then", x.bits(), 9065);
        CHECK.due("seven puts more", Blocks.putAll(x, 1, 1, 1, 1, 1, 1, 1), 7);
        CHECK.due("the eighth with 9065", x.put(1), LineBlocks.ROOM);
        CHECK.due("a wrong eighth with 9065", x.put(260), LineBlocks.OUTSIDE);
        x.receive(65);
        CHECK.due("the eighth with 9000", x.put(1), LineBlocks.ROOM);
        x.receive(1);
        CHECK.due("the eighth with 8999 again", x.put(1), 0);
    }

    private static void roomForWord() {
        LineBlocks x = new LineBlocks();
        fillTo(x, 8999);
        CHECK.due("word with 8999", x.word(1, 2), 0);
        CHECK.due("bits() then", x.bits(), 9065);
        CHECK.due("word with 9065", x.word(1, 2), LineBlocks.ROOM);
        x.receive(65);
        CHECK.due("word with 9000", x.word(1, 2), LineBlocks.ROOM);
        CHECK.due("put(1)", x.put(1), 1);
        CHECK.due("word with 9000 and one waiting", x.word(1, 2), LineBlocks.ROOM);
        x.receive(1);
        CHECK.due("word with 8999 and one waiting", x.word(1, 2), 1);
        CHECK.due("bits() then", x.bits(), 9065);
    }

    private static void roomForIdle() {
        LineBlocks x = new LineBlocks();
        fillTo(x, 8934);
        CHECK.due("idle(2) with 8934", x.idle(2), LineBlocks.ROOM);
        CHECK.due("idle(100) with 8934", x.idle(100), LineBlocks.ROOM);
        CHECK.due("idle(101) with 8934", x.idle(101), LineBlocks.OUTSIDE);
        CHECK.due("bits() then", x.bits(), 8934);
        x.receive(1);
        CHECK.due("idle(2) with 8933", x.idle(2), 9065);
        CHECK.due("idle(1) with 9065", x.idle(1), LineBlocks.ROOM);
        x.put(1);
        CHECK.due("idle(1) with 9065 and one waiting", x.idle(1), LineBlocks.OUTSIDE);
    }

    private static void fillTo(LineBlocks x, int wanted) {
        x.idle(100);
        int have = x.idle(35);
        while (have >= 0 && have < wanted) {
            have = x.add(0);
        }
    }
}
