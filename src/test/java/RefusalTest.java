import java.util.ArrayList;
import java.util.LinkedHashMap;
import java.util.List;
import java.util.Map;
import java.util.function.ToLongFunction;

/** "Terms": an object that had a refused call stands as one that had none. */
public final class RefusalTest {
    private static final int NEW = 0, SOME_WAIT = 1, WITHIN_A_BLOCK = 2, SLIPPED = 3, FULL = 4,
        FULL_AND_SEVEN_WAIT = 5;
    private static final Check CHECK = new Check("RefusalTest");

    public static void main(String[] args) {
        CHECK.sentence("A call that is refused changes nothing");
        for (int stage = NEW; stage <= FULL_AND_SEVEN_WAIT; stage++) {
            List<Long> want = seen(made(stage));
            for (Map.Entry<String, ToLongFunction<LineBlocks>> call : refused(stage).entrySet()) {
                LineBlocks x = made(stage);
                String name = "stage " + stage + ", " + call.getKey();
                CHECK.isTrue(name + " is refused", call.getValue().applyAsLong(x) < 0);
                CHECK.isTrue(name + " changes nothing", seen(x).equals(want));
            }
        }
        CHECK.end();
    }

    private static LineBlocks made(int stage) {
        switch (stage) {
            case SOME_WAIT:
                LineBlocks x = Blocks.waiting(3);
                x.state(0, 0x123456789L);
                return x;
            case WITHIN_A_BLOCK:
                LineBlocks y = Blocks.locked();
                y.idle(3);
                y.turn(0);
                y.receive(100);
                return y;
            case SLIPPED:
                LineBlocks z = Blocks.locked();
                z.idle(18);
                for (int k = 0; k < 16; k++) {
                    z.turn(66 * k);
                }
                z.receive(16 * 66);
                return z;
            case FULL:
                return Blocks.filled(9066);
            case FULL_AND_SEVEN_WAIT:
                LineBlocks full = Blocks.filled(9066);
                Blocks.putAll(full, 1, 2, 3, 4, 5, 6, 7);
                return full;
            default:
                return new LineBlocks();
        }
    }

    private static Map<String, ToLongFunction<LineBlocks>> refused(int stage) {
        Map<String, ToLongFunction<LineBlocks>> calls = new LinkedHashMap<>();
        calls.put("put(-1)", x -> x.put(-1));
        calls.put("put(260)", x -> x.put(260));
        calls.put("idle(0)", x -> x.idle(0));
        calls.put("idle(101)", x -> x.idle(101));
        calls.put("state(2, -1)", x -> x.state(2, -1));
        calls.put("state(-1, -1)", x -> x.state(-1, -1));
        calls.put("turn(-1)", x -> x.turn(-1));
        calls.put("turn(bits())", x -> x.turn(x.bits()));
        calls.put("add(2)", x -> x.add(2));
        calls.put("add(-1)", x -> x.add(-1));
        calls.put("receive(-1)", x -> x.receive(-1));
        calls.put("receiver(6)", x -> x.receiver(6));
        calls.put("receiver(-1)", x -> x.receiver(-1));
        calls.put("told(-1, 0)", x -> x.told(-1, 0));
        calls.put("bit(bits())", x -> x.bit(x.bits()));
        if (stage == SOME_WAIT || stage == FULL_AND_SEVEN_WAIT) {
            calls.put("idle(1) while some wait", x -> x.idle(1));
        }
        if (stage == FULL || stage == FULL_AND_SEVEN_WAIT) {
            calls.put("word(1, 2) without room", x -> x.word(1, 2));
            calls.put("add(0) without room", x -> x.add(0));
            calls.put("add(1) without room", x -> x.add(1));
        }
        if (stage == FULL) {
            calls.put("idle(1) without room", x -> x.idle(1));
            calls.put("idle(100) without room", x -> x.idle(100));
        }
        if (stage == FULL_AND_SEVEN_WAIT) {
            calls.put("put(1) without room", x -> x.put(1));
        }
        return calls;
    }

    /** What can be seen of an object, by looks and then by going on with it. */
    private static List<Long> seen(LineBlocks x) {
        List<Long> seen = new ArrayList<>();
        int bits = x.bits();
        seen.add((long) bits);
        for (int k = 0; k < 70; k++) {
            seen.add((long) x.bit(k));
            seen.add((long) x.bit(bits - 1 - k));
        }
        see(x, seen);
        seen.add((long) x.receive(200));
        see(x, seen);
        seen.add((long) x.put(9));
        seen.add((long) x.word(-1, 0x01020304));
        for (int k = 0; k < 66; k++) {
            seen.add((long) x.bit(x.bits() - 1 - k));
        }
        seen.add((long) x.receive(9999));
        see(x, seen);
        seen.add(x.state(0, 0));
        seen.add(x.state(1, 0));
        return seen;
    }

    private static void see(LineBlocks x, List<Long> seen) {
        for (int what = 0; what < 6; what++) {
            seen.add((long) x.receiver(what));
        }
        for (int j = 0; j < 8; j++) {
            seen.add((long) x.told(0, j));
        }
    }
}
