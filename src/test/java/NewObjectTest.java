/** Promise 1, and how long an object is used. */
public final class NewObjectTest {
    private static final Check CHECK = new Check("NewObjectTest");

    public static void main(String[] args) {
        statesAreZero();
        nothingIsOnTheLine();
        nothingElseIsThere();
        objectsShareNothing();
        lastCallIsAnswered();
        CHECK.end();
    }

    private static void statesAreZero() {
        CHECK.sentence("Both states are 0");
        LineBlocks x = new LineBlocks();
        CHECK.due("state(0, 7)", x.state(0, 7), 0);
        CHECK.due("state(1, 8)", x.state(1, 8), 0);
    }

    private static void nothingIsOnTheLine() {
        CHECK.sentence("nothing is on the line");
        LineBlocks x = new LineBlocks();
        CHECK.due("bits()", x.bits(), 0);
        CHECK.due("bit(0)", x.bit(0), LineBlocks.NONE);
        CHECK.due("turn(0)", x.turn(0), LineBlocks.OUTSIDE);
        CHECK.due("receive(1)", x.receive(1), 0);
        CHECK.due("receiver(3) then", x.receiver(3), 0);
    }

    private static void nothingElseIsThere() {
        CHECK.sentence("A new object");
        LineBlocks x = new LineBlocks();
        Blocks.stands(CHECK, x, "of a new object", 0, 0, 0, 0, 0, 0);
        CHECK.due("told(0, 0)", x.told(0, 0), LineBlocks.NONE);
        CHECK.due("put(0)", x.put(0), 1);
    }

    private static void objectsShareNothing() {
        CHECK.sentence("A new object");
        LineBlocks used = Blocks.locked();
        used.word(1, 2);
        used.receive(66);
        used.word(3, 4);
        used.put(5);
        used.state(0, -1);
        used.state(1, -1);
        statesAreZero();
        nothingIsOnTheLine();
        nothingElseIsThere();
        CHECK.due("bits() of the used one", used.bits(), 66);
        CHECK.due("put(6) of the used one", used.put(6), 2);
        CHECK.due("told(0, 7) of the used one", used.told(0, 7), 2);
    }

    /** The most that 512 calls can bring: every call but the last one sends or takes 100 blocks. */
    private static void lastCallIsAnswered() {
        CHECK.sentence("An object is used for at most 512 calls after it has been made");
        LineBlocks x = new LineBlocks();
        for (int k = 0; k < 255; k++) {
            CHECK.due("call " + (2 * k + 1), x.idle(100), 6600);
            CHECK.due("call " + (2 * k + 2), x.receive(6600), k == 0 ? 36 : 100);
        }
        CHECK.due("call 511", x.receiver(4), 25436);
        CHECK.due("call 512", x.told(25436 - 300, 7), Blocks.IDLE);
    }
}
