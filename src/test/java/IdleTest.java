/** Promise 4. */
public final class IdleTest {
    private static final Check CHECK = new Check("IdleTest");

    public static void main(String[] args) {
        groupsGoOut();
        everyCountIsTaken();
        otherCountsAreOutside();
        outsideWhileCharactersWait();
        roomBeforeTheLast();
        outsideWithoutRoom();
        CHECK.end();
    }

    private static void groupsGoOut() {
        CHECK.sentence("n groups of eight IDLEs go out, if no character waits:"
                + " how many bits are on the line");
        LineBlocks x = new LineBlocks();
        x.add(1);
        CHECK.due("idle(1) behind a bit", x.idle(1), 67);
        CHECK.due("idle(2) behind that", x.idle(2), 199);
        long state = 0;
        for (int from = 1; from < 199; from += 66) {
            CHECK.due("head from bit " + from, Blocks.head(x, from), 10);
            CHECK.due("payload from bit " + from, Blocks.payload(x, from, state), 0x1E);
            state = Blocks.stateBehind(x, from);
        }
        x.receive(100);
        CHECK.due("idle(2) when 100 were taken", x.idle(2), 231);
    }

    private static void everyCountIsTaken() {
        CHECK.sentence("OUTSIDE (n is not 1 .. 100");
        for (int n = 1; n <= 100; n++) {
            LineBlocks x = new LineBlocks();
            CHECK.due("idle(" + n + ")", x.idle(n), n * 66);
            CHECK.due("bits() then", x.bits(), n * 66);
        }
    }

    private static void otherCountsAreOutside() {
        CHECK.sentence("OUTSIDE (n is not 1 .. 100");
        LineBlocks x = new LineBlocks();
        // The bits of the last but one number wrap around to 62.
        int[] outside = {0, 101, -1, 102, -100, 256, Blocks.MIN, Blocks.MAX, 65075264, 1 << 30};
        for (int n : outside) {
            CHECK.due("idle(" + n + ")", x.idle(n), LineBlocks.OUTSIDE);
            CHECK.due("bits() then", x.bits(), 0);
        }
    }

    private static void outsideWhileCharactersWait() {
        CHECK.sentence("or characters wait)");
        LineBlocks x = new LineBlocks();
        for (int waiting = 1; waiting < 8; waiting++) {
            CHECK.due("put(256)", x.put(256), waiting);
            CHECK.due("idle(1) while " + waiting + " wait", x.idle(1), LineBlocks.OUTSIDE);
            CHECK.due("idle(100) while " + waiting + " wait", x.idle(100), LineBlocks.OUTSIDE);
            CHECK.due("bits() then", x.bits(), 0);
        }
        CHECK.due("the eighth put", x.put(256), 0);
        CHECK.due("idle(1) when none waits", x.idle(1), 132);
    }

    private static void roomBeforeTheLast() {
        CHECK.sentence("ROOM (9000 bits or more would be on the line before the last of them)");
        int[] counts = {1, 2, 3, 36, 99, 100};
        for (int n : counts) {
            int tooMany = 9000 - 66 * (n - 1);
            LineBlocks x = Blocks.filled(tooMany);
            CHECK.due("idle(" + n + ") with " + tooMany, x.idle(n), LineBlocks.ROOM);
            CHECK.due("bits() then", x.bits(), tooMany);
            x.receive(1);
            CHECK.due("idle(" + n + ") with one less", x.idle(n), 9065);
            CHECK.due("idle(1) with 9065", x.idle(1), LineBlocks.ROOM);
            CHECK.due("bits() then", x.bits(), 9065);
        }
        LineBlocks y = Blocks.filled(9066);
        CHECK.due("idle(1) with 9066", y.idle(1), LineBlocks.ROOM);
        CHECK.due("idle(100) with 9066", y.idle(100), LineBlocks.ROOM);
        CHECK.due("bits() then", y.bits(), 9066);
    }

    private static void outsideWithoutRoom() {
        CHECK.sentence("OUTSIDE (n is not 1 .. 100, or characters wait), ROOM");
        LineBlocks x = Blocks.filled(9066);
        CHECK.due("idle(0) with 9066", x.idle(0), LineBlocks.OUTSIDE);
        CHECK.due("idle(101) with 9066", x.idle(101), LineBlocks.OUTSIDE);
        x.put(256);
        CHECK.due("idle(1) with 9066 and one waiting", x.idle(1), LineBlocks.OUTSIDE);
    }
}
