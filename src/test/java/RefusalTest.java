import java.util.ArrayList;
import java.util.List;

/** A call that is refused changes nothing: an object that had such calls stands as one that had none. */
public final class RefusalTest {
    private static final Check CHECK = new Check("RefusalTest");

    public static void main(String[] args) {
        int[] stages = {0, 1, 2, 3, 4};
        for (int stage : stages) {
            LineBlocks plain = made(stage);
            LineBlocks refused = made(stage);
            refuseAll(refused, stage);
            compare(stage, plain, refused);
        }
        CHECK.end();
    }

    /** 0 new, 1 characters wait, 2 locked in the midst of a block, 3 full, 4 full and seven wait. */
    private static LineBlocks made(int stage) {
        LineBlocks x = stage == 2 ? Blocks.locked() : new LineBlocks();
        if (stage == 1) {
            Blocks.putAll(x, 257, 1, 2);
        }
        if (stage == 2) {
            x.idle(3);
            x.turn(0);
            x.receive(100);
        }
        if (stage >= 3) {
            x.idle(100);
            x.idle(37);
            for (int k = 0; k < 24; k++) {
                x.add(k % 2);
            }
        }
        if (stage == 4) {
            Blocks.putAll(x, 1, 2, 3, 4, 5, 6, 7);
        }
        return x;
    }

    private static void refuseAll(LineBlocks x, int stage) {
        CHECK.due("put(-1)", x.put(-1), LineBlocks.OUTSIDE);
        CHECK.due("put(260)", x.put(260), LineBlocks.OUTSIDE);
        CHECK.due("idle(0)", x.idle(0), LineBlocks.OUTSIDE);
        CHECK.due("idle(101)", x.idle(101), LineBlocks.OUTSIDE);
        CHECK.due("state(2, -1)", x.state(2, -1), LineBlocks.OUTSIDE);
        CHECK.due("state(-1, -1)", x.state(-1, -1), LineBlocks.OUTSIDE);
        CHECK.due("turn(-1)", x.turn(-1), LineBlocks.OUTSIDE);
        CHECK.due("turn(9066)", x.turn(9066), LineBlocks.OUTSIDE);
        CHECK.due("add(2)", x.add(2), LineBlocks.OUTSIDE);
        CHECK.due("add(-1)", x.add(-1), LineBlocks.OUTSIDE);
        CHECK.due("receive(-1)", x.receive(-1), LineBlocks.OUTSIDE);
        CHECK.due("receiver(6)", x.receiver(6), LineBlocks.OUTSIDE);
        CHECK.due("told(-1, 0)", x.told(-1, 0), LineBlocks.NONE);
        CHECK.due("bit(9066)", x.bit(9066), LineBlocks.NONE);
        if (stage == 1 || stage == 4) {
            CHECK.due("idle(1) while some wait", x.idle(1), LineBlocks.OUTSIDE);
        }
        if (stage >= 3) {
            CHECK.due("word without room", x.word(1, 2), LineBlocks.ROOM);
            CHECK.due("add without room", x.add(1), LineBlocks.ROOM);
        }
        if (stage == 3) {
            CHECK.due("idle(1) without room", x.idle(1), LineBlocks.ROOM);
        }
        if (stage == 4) {
            CHECK.due("put(1) without room", x.put(1), LineBlocks.ROOM);
        }
    }

    private static void compare(int stage, LineBlocks plain, LineBlocks refused) {
        List<Long> want = seen(plain);
        List<Long> got = seen(refused);
        for (int k = 0; k < want.size(); k++) {
            CHECK.due("stage " + stage + ", look " + k, got.get(k), want.get(k));
        }
    }

    /** What can be seen of an object, by looks and then by going on with it. */
    private static List<Long> seen(LineBlocks x) {
        List<Long> seen = new ArrayList<>();
        seen.add((long) x.bits());
        for (int k = 0; k < 70; k++) {
            seen.add((long) x.bit(k));
            seen.add((long) x.bit(x.bits() - 1 - k));
        }
        see(x, seen);
        seen.add((long) x.receive(200));
        see(x, seen);
        seen.add((long) x.put(9));
        seen.add((long) x.word(-1, 0x01020304));
        seen.add((long) x.receive(9999));
        see(x, seen);
        seen.add(x.state(0, 0));
        seen.add(x.state(1, 0));
        return seen;
    }

    private static void see(LineBlocks x, List<Long> seen) {
        for (int what = 0; what < 6; what++) {
            seen.add((long) x.receiver(what));
        }
        for (int i = 0; i < 3; i++) {
            for (int j = 0; j < 8; j++) {
                seen.add((long) x.told(i, j));
            }
        }
    }
}
