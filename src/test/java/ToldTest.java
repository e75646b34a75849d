/** Promise 11. */
public final class ToldTest {
    private static final Check CHECK = new Check("ToldTest");

    public static void main(String[] args) {
        charactersOfGroups();
        placesThatAreNone();
        groupsThatAreNone();
        latestThreeHundred();
        groupsOverwritten();
        CHECK.end();
    }

    private static void charactersOfGroups() {
        CHECK.sentence("Character j (0 .. 7) of the i-th group (0 the first) that was told in all");
        LineBlocks x = Blocks.locked();
        x.word(0x01020304, 0x05060708);
        Blocks.putAll(x, 257, 11, 12, 13, 14, 15, 16, 17);
        x.word(0x15161718, 0x191A1B1C);
        x.receive(132);
        x.receive(66);
        Blocks.isTold(CHECK, x, 0, 1, 2, 3, 4, 5, 6, 7, 8);
        Blocks.isTold(CHECK, x, 1, 257, 11, 12, 13, 14, 15, 16, 17);
        Blocks.isTold(CHECK, x, 2, 0x15, 0x16, 0x17, 0x18, 0x19, 0x1A, 0x1B, 0x1C);
        Blocks.isTold(CHECK, x, 0, 1, 2, 3, 4, 5, 6, 7, 8);
    }

    private static void placesThatAreNone() {
        CHECK.sentence("Character j (0 .. 7)");
        LineBlocks x = Blocks.locked();
        x.word(0x01020304, 0x05060708);
        x.idle(1);
        x.receive(132);
        int[] none = {-1, 8, 9, -8, 256, Blocks.MIN, Blocks.MAX};
        for (int j : none) {
            CHECK.due("told(0, " + j + ")", x.told(0, j), LineBlocks.NONE);
            CHECK.due("told(1, " + j + ")", x.told(1, j), LineBlocks.NONE);
        }
        CHECK.due("told(0, 0)", x.told(0, 0), 1);
        CHECK.due("told(0, 7)", x.told(0, 7), 8);
    }

    private static void groupsThatAreNone() {
        CHECK.sentence("NONE when there is none such");
        LineBlocks x = new LineBlocks();
        x.idle(64);
        x.word(1, 2);
        x.receive(64 * 66 + 65);
        CHECK.due("told(0, 0) while a bit is missing", x.told(0, 0), LineBlocks.NONE);
        x.receive(1);
        CHECK.due("told(0, 7) of one", x.told(0, 7), 2);
        int[] none = {-1, 1, 2, -299, -300, -301, 299, 300, 301, Blocks.MIN, Blocks.MAX};
        for (int i : none) {
            CHECK.due("told(" + i + ", 0) of one", x.told(i, 0), LineBlocks.NONE);
        }
    }

    /** Groups 0 .. 2 are words of their number, then come IDLEs, then words again from 298 on. */
    private static LineBlocks withThreeHundred() {
        LineBlocks x = Blocks.locked();
        for (int k = 0; k < 3; k++) {
            x.word(k, k + 20);
        }
        x.receive(198);
        Blocks.takeRight(x, 100);
        Blocks.takeRight(x, 100);
        Blocks.takeRight(x, 95);
        x.word(298, 318);
        x.word(299, 319);
        x.receive(132);
        return x;
    }

    private static void latestThreeHundred() {
        CHECK.sentence("(the latest 300 are there)");
        LineBlocks x = withThreeHundred();
        CHECK.due("receiver(4)", x.receiver(4), 300);
        Blocks.isTold(CHECK, x, 0, 0, 0, 0, 0, 0, 0, 0, 20);
        Blocks.isTold(CHECK, x, 299, 0, 0, 1, 43, 0, 0, 1, 63);
        CHECK.due("told(300, 0) of 300", x.told(300, 0), LineBlocks.NONE);
        x.word(300, 320);
        CHECK.due("receive(66)", x.receive(66), 1);
        CHECK.due("told(0, 7) of 301", x.told(0, 7), LineBlocks.NONE);
        CHECK.due("told(0, 0) of 301", x.told(0, 0), LineBlocks.NONE);
        Blocks.isTold(CHECK, x, 1, 0, 0, 0, 1, 0, 0, 0, 21);
        Blocks.isTold(CHECK, x, 300, 0, 0, 1, 44, 0, 0, 1, 64);
        CHECK.due("told(301, 0) of 301", x.told(301, 0), LineBlocks.NONE);
        CHECK.due("told(-1, 0) of 301", x.told(-1, 0), LineBlocks.NONE);
        CHECK.due("receiver(4)", x.receiver(4), 301);
    }

    private static void groupsOverwritten() {
        CHECK.sentence("(the latest 300 are there)");
        LineBlocks x = withThreeHundred();
        Blocks.takeRight(x, 2);
        CHECK.due("told(1, 7) of 302", x.told(1, 7), LineBlocks.NONE);
        Blocks.isTold(CHECK, x, 2, 0, 0, 0, 2, 0, 0, 0, 22);
        Blocks.isTold(CHECK, x, 3, 256, 256, 256, 256, 256, 256, 256, 256);
        for (int k = 0; k < 4; k++) {
            Blocks.takeRight(x, 99);
        }
        CHECK.due("receiver(4)", x.receiver(4), 698);
        CHECK.due("told(397, 0) of 698", x.told(397, 0), LineBlocks.NONE);
        CHECK.due("told(299, 0) of 698", x.told(299, 0), LineBlocks.NONE);
        CHECK.due("told(398, 0) of 698", x.told(398, 0), 256);
        CHECK.due("told(697, 0) of 698", x.told(697, 0), 256);
        CHECK.due("told(698, 0) of 698", x.told(698, 0), LineBlocks.NONE);
    }
}
