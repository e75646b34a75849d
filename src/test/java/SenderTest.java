import java.util.Arrays;
import java.util.Set;

/** Promises 1 to 5, as far as they are the sender's. */
public final class SenderTest {
    private static final int I = Blocks.IDLE, S = Blocks.START, T = Blocks.END, E = Blocks.ERROR;
    private static final Check CHECK = new Check("SenderTest");

    public static void main(String[] args) {
        newObject();
        putAnswers();
        groupsOfEachType();
        groupsOfNoType();
        wordAsEightPuts();
        idleGroups();
        scramblerGoesOnThroughBlocks();
        statesAsLongs();
        CHECK.end();
    }

    private static void newObject() {
        LineBlocks x = new LineBlocks();
        CHECK.due("bits() of a new object", x.bits(), 0);
        CHECK.due("bit(0) of a new object", x.bit(0), LineBlocks.NONE);
        CHECK.due("state(0, 7) of a new object", x.state(0, 7), 0);
        CHECK.due("state(1, 8) of a new object", x.state(1, 8), 0);
        for (int what = 0; what < 6; what++) {
            CHECK.due("receiver(" + what + ") of a new object", x.receiver(what), 0);
        }
        CHECK.due("told(0, 0) of a new object", x.told(0, 0), LineBlocks.NONE);
        CHECK.due("put(0) of a new object", x.put(0), 1);
    }

    private static void putAnswers() {
        LineBlocks x = new LineBlocks();
        CHECK.due("put(-1)", x.put(-1), LineBlocks.OUTSIDE);
        CHECK.due("put(260)", x.put(260), LineBlocks.OUTSIDE);
        CHECK.due("put(min)", x.put(Integer.MIN_VALUE), LineBlocks.OUTSIDE);
        CHECK.due("put(max)", x.put(Integer.MAX_VALUE), LineBlocks.OUTSIDE);
        for (int k = 1; k <= 7; k++) {
            CHECK.due("put number " + k, x.put(k == 1 ? 259 : 0), k);
            CHECK.due("bits() with " + k + " waiting", x.bits(), 0);
        }
        CHECK.due("the eighth put", x.put(255), 0);
        CHECK.due("bits() behind it", x.bits(), 66);
    }

    private static void groupsOfEachType() {
        goesOut(1, 0x08070605040302FFL, 0xFF, 2, 3, 4, 5, 6, 7, 8);
        goesOut(1, 0L, 0, 0, 0, 0, 0, 0, 0, 0);
        goesOut(1, -1L, 255, 255, 255, 255, 255, 255, 255, 255);
        goesOut(10, 0x1EL, I, I, I, I, I, I, I, I);
        goesOut(10, Blocks.EIGHT_ERRORS, E, E, E, E, E, E, E, E);
        goesOut(10, 0x1E1EL, E, I, I, I, I, I, I, I);
        goesOut(10, 0x3C0000000000001EL, I, I, I, I, I, I, I, E);
        goesOut(10, 0xFF06050403020178L, S, 1, 2, 3, 4, 5, 6, 255);
        goesOut(10, 0x03020103C00F0033L, I, E, I, E, S, 1, 2, 3);
        goesOut(10, 0xFFFFFF0000001E33L, E, I, I, I, S, 255, 255, 255);
        goesOut(10, 0x87L, T, I, I, I, I, I, I, I);
        goesOut(10, 0x3C78F1E3C78F0087L, T, E, E, E, E, E, E, E);
        goesOut(10, 0x3C78F1E3C780FF99L, 255, T, E, E, E, E, E, E);
        goesOut(10, 0x3C78F1E3C0FFFFAAL, 255, 255, T, E, E, E, E, E);
        goesOut(10, 0x3C78F1E0030201B4L, 1, 2, 3, T, E, E, E, E);
        goesOut(10, 0x3C78F0FFFFFFFFCCL, 255, 255, 255, 255, T, E, E, E);
        goesOut(10, 0x3C780504030201D2L, 1, 2, 3, 4, 5, T, E, E);
        goesOut(10, 0x3CFFFFFFFFFFFFE1L, 255, 255, 255, 255, 255, 255, T, E);
        goesOut(10, 0x00060504030201E1L, 1, 2, 3, 4, 5, 6, T, I);
        goesOut(10, 0xFF060504030201FFL, 1, 2, 3, 4, 5, 6, 255, T);
        goesOut(10, 0x0078000000000199L, 1, T, I, I, I, I, E, I);
    }

    private static void groupsOfNoType() {
        becomesErrors(S, I, 1, 1, 1, 1, 1, 1);
        becomesErrors(S, 1, 2, 3, 4, 5, 6, T);
        becomesErrors(S, 1, 2, 3, 4, 5, 6, S);
        becomesErrors(1, S, 2, 3, 4, 5, 6, 7);
        becomesErrors(I, I, I, S, 1, 2, 3, 4);
        becomesErrors(I, I, I, I, S, 1, 2, I);
        becomesErrors(I, I, I, I, S, E, 2, 3);
        becomesErrors(I, I, I, 1, S, 1, 2, 3);
        becomesErrors(S, I, I, I, S, 1, 2, 3);
        becomesErrors(I, I, I, I, I, S, 1, 2);
        becomesErrors(T, T, I, I, I, I, I, I);
        becomesErrors(T, I, I, I, I, I, I, T);
        becomesErrors(T, I, I, I, I, I, I, 0);
        becomesErrors(1, T, I, I, 2, I, I, I);
        becomesErrors(1, T, I, I, S, 1, 2, 3);
        becomesErrors(1, 2, 3, 4, 5, 6, 7, I);
        becomesErrors(1, 2, 3, 4, 5, 6, 7, E);
        becomesErrors(1, 2, 3, 4, 5, 6, 7, S);
        becomesErrors(I, 1, 2, 3, 4, 5, 6, 7);
        becomesErrors(I, T, I, I, I, I, I, I);
        becomesErrors(I, I, I, I, I, I, I, S);
        becomesErrors(S, S, S, S, S, S, S, S);
    }

    private static void becomesErrors(int... group) {
        goesOut(10, Blocks.EIGHT_ERRORS, group);
    }

    private static void goesOut(int head, long payload, int... group) {
        LineBlocks x = new LineBlocks();
        String name = Arrays.toString(group);
        CHECK.due("the last put of " + name, Blocks.putAll(x, group), 0);
        CHECK.due("bits() behind " + name, x.bits(), 66);
        CHECK.due("head of " + name, Blocks.head(x, 0), head);
        CHECK.due("payload of " + name, Blocks.payload(x, 0, 0), payload);
    }

    private static void wordAsEightPuts() {
        LineBlocks x = new LineBlocks();
        CHECK.due("word", x.word(0x01020304, 0xFEDCBA98), 0);
        CHECK.due("head of a word", Blocks.head(x, 0), 1);
        CHECK.due("payload of a word", Blocks.payload(x, 0, 0), 0x98BADCFE04030201L);

        LineBlocks y = new LineBlocks();
        Blocks.putAll(y, S, 1, 2);
        CHECK.due("word behind three puts", y.word(0x03040506, 0x07FFFE80), 3);
        CHECK.due("bits() then", y.bits(), 66);
        CHECK.due("head then", Blocks.head(y, 0), 10);
        CHECK.due("payload then", Blocks.payload(y, 0, 0), 0x0706050403020178L);
        long behind = Blocks.stateBehind(y, 0);
        CHECK.due("five puts more", Blocks.putAll(y, 1, 2, 3, 4, 5), 0);
        CHECK.due("payload of the rest", Blocks.payload(y, 66, behind), 0x050403020180FEFFL);

        LineBlocks z = new LineBlocks();
        Blocks.putAll(z, 1, 1, 1, 1, 1, 1, 1);
        CHECK.due("word behind seven puts", z.word(0, 0), 7);
        CHECK.due("bits() then", z.bits(), 66);
    }

    private static void idleGroups() {
        LineBlocks x = new LineBlocks();
        CHECK.due("idle(0)", x.idle(0), LineBlocks.OUTSIDE);
        CHECK.due("idle(-1)", x.idle(-1), LineBlocks.OUTSIDE);
        CHECK.due("idle(101)", x.idle(101), LineBlocks.OUTSIDE);
        CHECK.due("idle(max)", x.idle(Integer.MAX_VALUE), LineBlocks.OUTSIDE);
        CHECK.due("idle(min)", x.idle(Integer.MIN_VALUE), LineBlocks.OUTSIDE);
        CHECK.due("idle(1)", x.idle(1), 66);
        CHECK.due("its head", Blocks.head(x, 0), 10);
        CHECK.due("its payload", Blocks.payload(x, 0, 0), 0x1E);
        CHECK.due("put(256)", x.put(256), 1);
        CHECK.due("idle(1) while one waits", x.idle(1), LineBlocks.OUTSIDE);
        CHECK.due("the last put of eight", Blocks.putAll(x, I, I, I, I, I, I, I), 0);
        CHECK.due("idle(2) when none waits", x.idle(2), 264);
        long second = Blocks.stateBehind(x, 66);
        CHECK.due("head of the third block", Blocks.head(x, 132), 10);
        CHECK.due("payload of the third block", Blocks.payload(x, 132, second), 0x1E);
        CHECK.due("idle(100) of a new object", new LineBlocks().idle(100), 6600);
    }

    private static void scramblerGoesOnThroughBlocks() {
        LineBlocks x = new LineBlocks();
        x.word(0x80000000, 0);
        x.word(0, 0);
        // One bit comes again 39 and 58 bits later, and so do those; what comes twice goes out.
        Set<Integer> ones = Set.of(7, 7 + 39, 7 + 58, 7 + 78, 7 + 116, 7 + 117);
        for (int k = 0; k < 128; k++) {
            int at = k < 64 ? 2 + k : 66 + 2 + k - 64;
            CHECK.due("payload bit " + k + " on the line", x.bit(at), ones.contains(k) ? 1 : 0);
        }
        CHECK.due("head of the second block", Blocks.head(x, 66), 1);
        long behind = Blocks.stateBehind(x, 0);
        CHECK.due("the second payload", Blocks.payload(x, 66, behind), 0);
    }

    private static void statesAsLongs() {
        LineBlocks x = new LineBlocks();
        CHECK.due("state(-1, 1)", x.state(-1, 1), LineBlocks.OUTSIDE);
        CHECK.due("state(2, 1)", x.state(2, 1), LineBlocks.OUTSIDE);
        CHECK.due("state(0, -1)", x.state(0, -1L), 0);
        CHECK.due("state(0, bit 58)", x.state(0, 1L << 58), (1L << 58) - 1);
        CHECK.due("state(0, bit 57)", x.state(0, 1L << 57), 0);
        CHECK.due("state(1, 3)", x.state(1, 3), 0);
        x.word(0, 0);
        CHECK.due("the first payload bit, by the bit 58 before", x.bit(2), 1);
        CHECK.due("the second payload bit", x.bit(3), 0);
        CHECK.due("the payload with that state", Blocks.payload(x, 0, 1L << 57), 0);
        long behind = Blocks.stateBehind(x, 0);
        CHECK.due("state(0, bit 38)", x.state(0, 1L << 38), behind);
        x.word(0, 0);
        CHECK.due("the first payload bit, by the bit 39 before", x.bit(68), 1);
        CHECK.due("the second payload bit", x.bit(69), 0);
        CHECK.due("the payload with that state", Blocks.payload(x, 66, 1L << 38), 0);
        CHECK.due("the receiver's state is untouched", x.state(1, 0), 3);
    }
}
