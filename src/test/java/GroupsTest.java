import java.util.Arrays;

/** "Terms": characters, groups, and groups as blocks. */
public final class GroupsTest {
    private static final int I = Blocks.IDLE, S = Blocks.START, T = Blocks.END, E = Blocks.ERROR;
    private static final Check CHECK = new Check("GroupsTest");

    public static void main(String[] args) {
        eightData();
        dataEndsAt255();
        payloadGoesLowestBitFirst();
        eightOfIdleAndError();
        startAndSevenData();
        startInTheMiddle();
        endBehindData();
        bitsBetweenAreZero();
        anyOtherGroup();
        everyShape();
        CHECK.end();
    }

    /** The group goes out of a new object with this head and, scrambled back, this payload. */
    private static void goesOut(int head, long payload, int... group) {
        LineBlocks x = new LineBlocks();
        String name = Arrays.toString(group);
        CHECK.due("the last put of " + name, Blocks.putAll(x, group), 0);
        CHECK.due("bits() behind " + name, x.bits(), 66);
        CHECK.due("head of " + name, Blocks.head(x, 0), head);
        CHECK.due("payload of " + name, Blocks.payload(x, 0, 0), payload);
    }

    /** The group, but with another character at one place. */
    private static int[] with(int[] group, int place, int c) {
        int[] changed = group.clone();
        changed[place] = c;
        return changed;
    }

    private static void eightData() {
        CHECK.sentence("eight data: head 0 1, the bytes, place 0 lowest");
        int[] zeros = new int[8];
        goesOut(1, 0L, zeros);
        goesOut(1, -1L, 255, 255, 255, 255, 255, 255, 255, 255);
        goesOut(1, 0x0807060504030201L, 1, 2, 3, 4, 5, 6, 7, 8);
        for (int place = 0; place < 8; place++) {
            goesOut(1, 0xFFL << 8 * place, with(zeros, place, 255));
        }
        // The lowest byte of data may look like a type.
        goesOut(1, 0x1EL, 0x1E, 0, 0, 0, 0, 0, 0, 0);
    }

    private static void dataEndsAt255() {
        CHECK.sentence("CHARACTERS: data 0 .. 255; 256 IDLE, 257 START, 258 END, 259 ERROR");
        int[] data = {0, 255, 1, 254, 2, 253, 3, 252};
        for (int place = 0; place < 8; place++) {
            goesOut(10, Blocks.EIGHT_ERRORS, with(data, place, 256));
            goesOut(10, Blocks.EIGHT_ERRORS, with(data, place, 259));
        }
        for (int place = 1; place < 8; place++) {
            goesOut(10, Blocks.EIGHT_ERRORS, with(data, place, 257));
        }
        for (int place = 0; place < 7; place++) {
            goesOut(10, Blocks.EIGHT_ERRORS, with(data, place, 258));
        }
    }

    private static void payloadGoesLowestBitFirst() {
        CHECK.sentence("two HEAD bits and 64 bits of PAYLOAD, as a long, its lowest bit first");
        LineBlocks x = new LineBlocks();
        x.word(0x05000000, 0);
        int[] first = {0, 1, 1, 0, 1, 0, 0, 0, 0, 0, 0};
        for (int i = 0; i < first.length; i++) {
            CHECK.due("bit(" + i + ")", x.bit(i), first[i]);
        }
        CHECK.due("bits()", x.bits(), 66);
    }

    private static void eightOfIdleAndError() {
        CHECK.sentence("1E: eight of IDLE, ERROR: codes of seven bits, place 0 lowest,"
                + " from bit 8 on: 0 for IDLE, 1E for ERROR");
        int[] idles = {I, I, I, I, I, I, I, I};
        goesOut(10, 0x1EL, idles);
        goesOut(10, Blocks.EIGHT_ERRORS, Blocks.ERRORS);
        for (int place = 0; place < 8; place++) {
            long code = 0x1EL << 8 + 7 * place;
            goesOut(10, 0x1EL | code, with(idles, place, E));
            goesOut(10, Blocks.EIGHT_ERRORS & ~code, with(Blocks.ERRORS, place, I));
        }
    }

    private static void startAndSevenData() {
        CHECK.sentence("78: START, seven data: the bytes from bit 8 on");
        int[] group = {S, 0, 0, 0, 0, 0, 0, 0};
        goesOut(10, 0x78L, group);
        goesOut(10, 0x0706050403020178L, S, 1, 2, 3, 4, 5, 6, 7);
        for (int place = 1; place < 8; place++) {
            goesOut(10, 0x78L | 0xFFL << 8 * place, with(group, place, 255));
        }
    }

    private static void startInTheMiddle() {
        CHECK.sentence("33: four of IDLE, ERROR, START, three data: four codes from bit 8 on,"
                + " four bits 0, the bytes from bit 40 on");
        int[] group = {I, I, I, I, S, 0, 0, 0};
        goesOut(10, 0x33L, group);
        goesOut(10, 0xFFFFFF03C78F1E33L, E, E, E, E, S, 255, 255, 255);
        for (int place = 0; place < 4; place++) {
            goesOut(10, 0x33L | 0x1EL << 8 + 7 * place, with(group, place, E));
        }
        for (int place = 5; place < 8; place++) {
            goesOut(10, 0x33L | 0xFFL << 40 + 8 * (place - 5), with(group, place, 255));
        }
    }

    private static void endBehindData() {
        CHECK.sentence("0 to 7 data, END, then IDLE or ERROR: the bytes from bit 8 on; the codes"
                + " of the places behind the END end at bit 63, those of the last place highest");
        for (int end = 0; end < 8; end++) {
            int[] group = {I, I, I, I, I, I, I, I};
            Arrays.fill(group, 0, end, 0);
            group[end] = T;
            long type = Blocks.END_TYPES[end];
            goesOut(10, type, group);
            for (int place = 0; place < end; place++) {
                goesOut(10, type | 0xFFL << 8 + 8 * place, with(group, place, 255));
            }
            for (int place = end + 1; place < 8; place++) {
                goesOut(10, type | 0x1EL << 64 - 7 * (8 - place), with(group, place, E));
            }
        }
    }

    private static void bitsBetweenAreZero() {
        CHECK.sentence("between them bits 0");
        goesOut(10, 0x3C78F1E3C78F0087L, T, E, E, E, E, E, E, E);
        goesOut(10, 0x3C78F1E3C780FF99L, 255, T, E, E, E, E, E, E);
        goesOut(10, 0x3C78F1E3C0FFFFAAL, 255, 255, T, E, E, E, E, E);
        goesOut(10, 0x3C78F1E0FFFFFFB4L, 255, 255, 255, T, E, E, E, E);
        goesOut(10, 0x3C78F0FFFFFFFFCCL, 255, 255, 255, 255, T, E, E, E);
        goesOut(10, 0x3C78FFFFFFFFFFD2L, 255, 255, 255, 255, 255, T, E, E);
        goesOut(10, 0x3CFFFFFFFFFFFFE1L, 255, 255, 255, 255, 255, 255, T, E);
        goesOut(10, 0xFFFFFFFFFFFFFFFFL, 255, 255, 255, 255, 255, 255, 255, T);
    }

    private static void anyOtherGroup() {
        CHECK.sentence("Any other group becomes the block of eight ERRORs");
        int[][] others = {
            {S, I, 1, 1, 1, 1, 1, 1}, {S, 1, 2, 3, 4, 5, 6, T}, {S, 1, 2, 3, 4, 5, 6, S},
            {1, S, 2, 3, 4, 5, 6, 7}, {I, I, I, S, 1, 2, 3, 4}, {I, I, I, I, S, 1, 2, I},
            {I, I, I, I, S, E, 2, 3}, {I, I, I, 1, S, 1, 2, 3}, {S, I, I, I, S, 1, 2, 3},
            {I, I, I, I, I, S, 1, 2}, {T, T, I, I, I, I, I, I}, {T, I, I, I, I, I, I, T},
            {T, I, I, I, I, I, I, 0}, {1, T, I, I, 2, I, I, I}, {1, T, I, I, S, 1, 2, 3},
            {1, 2, 3, 4, 5, 6, 7, I}, {1, 2, 3, 4, 5, 6, 7, E}, {1, 2, 3, 4, 5, 6, 7, S},
            {I, 1, 2, 3, 4, 5, 6, 7}, {I, T, I, I, I, I, I, I}, {I, I, I, I, I, I, I, S},
            {S, S, S, S, S, S, S, S}, {T, T, T, T, T, T, T, T}, {I, I, I, I, S, T, I, I}};
        for (int[] group : others) {
            goesOut(10, Blocks.EIGHT_ERRORS, group);
        }
    }

    /** Every group of data (d), IDLE or ERROR (c), START (S) and END (T) at each of the places. */
    private static void everyShape() {
        CHECK.sentence("Any other group becomes the block of eight ERRORs");
        for (int number = 0; number < 1 << 16; number++) {
            StringBuilder shape = new StringBuilder();
            LineBlocks x = new LineBlocks();
            for (int place = 0; place < 8; place++) {
                int kind = number >> 2 * place & 3;
                shape.append("dcST".charAt(kind));
                x.put(characterOf(kind, number * 31 + place * 89));
            }
            becomes(x, shape.toString());
        }
    }

    private static int characterOf(int kind, int choice) {
        switch (kind) {
            case 0:
                return choice & 255;
            case 1:
                return (choice >> 3 & 1) == 0 ? I : E;
            default:
                return kind == 2 ? S : T;
        }
    }

    private static void becomes(LineBlocks x, String shape) {
        long payload = Blocks.payload(x, 0, 0);
        CHECK.due("head of " + shape, Blocks.head(x, 0), shape.equals("dddddddd") ? 1 : 10);
        if (typeOf(shape) >= 0) {
            CHECK.due("type of " + shape, payload & 0xFF, typeOf(shape));
        } else if (!shape.equals("dddddddd")) {
            CHECK.due("payload of " + shape, payload, Blocks.EIGHT_ERRORS);
        }
    }

    private static int typeOf(String shape) {
        if (shape.matches("d*Tc*")) {
            return Blocks.END_TYPES[shape.indexOf('T')];
        }
        switch (shape) {
            case "cccccccc":
                return 0x1E;
            case "Sddddddd":
                return 0x78;
            case "ccccSddd":
                return 0x33;
            default:
                return -1;
        }
    }
}
