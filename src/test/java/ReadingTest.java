import java.util.Arrays;

/** "Terms": blocks read as groups. */
public final class ReadingTest {
    private static final int I = Blocks.IDLE, S = Blocks.START, T = Blocks.END, E = Blocks.ERROR;
    private static final int[] IDLES = {I, I, I, I, I, I, I, I};
    private static final int[] MIDDLE = {I, I, I, I, S, 0, 0, 0};
    private static final Check CHECK = new Check("ReadingTest");

    public static void main(String[] args) {
        groupsComeBack();
        dataOfAnyLowestByte();
        everyType();
        otherTypesWithOtherBits();
        everyCodeOfEight();
        everyCodeBeforeAStart();
        everyCodeBehindAnEnd();
        bitsThatShouldBeZero();
        wrongHeads();
        CHECK.end();
    }

    /** The group that is told of a payload behind a head. */
    private static void isRead(int first, int second, long payload, int... group) {
        LineBlocks x = Blocks.locked();
        Blocks.sendAlone(x, first, second, payload);
        String name = first + " " + second + " " + Long.toHexString(payload);
        CHECK.due("receive(66) of " + name, x.receive(66), 1);
        for (int j = 0; j < 8; j++) {
            CHECK.due("told(0, " + j + ") of " + name, x.told(0, j), group[j]);
        }
    }

    private static int[] with(int[] group, int place, int c) {
        int[] changed = group.clone();
        changed[place] = c;
        return changed;
    }

    /** No data but 0, END at this place, IDLEs behind it. */
    private static int[] ended(int end) {
        int[] group = IDLES.clone();
        Arrays.fill(group, 0, end, 0);
        group[end] = T;
        return group;
    }

    private static void groupsComeBack() {
        CHECK.sentence("a receiver that finds where blocks begin, scrambles back, and tells"
                + " characters again");
        comesBack(0, 255, 1, 254, 2, 253, 3, 252);
        comesBack(IDLES);
        comesBack(Blocks.ERRORS);
        comesBack(E, I, I, E, I, E, E, I);
        comesBack(S, 255, 0, 128, 64, 32, 16, 9);
        comesBack(I, E, E, I, S, 255, 0, 128);
        comesBack(E, I, I, E, S, 1, 2, 3);
        comesBack(T, E, I, I, E, E, I, E);
        comesBack(200, T, E, I, I, E, E, I);
        comesBack(200, 201, T, E, I, I, E, E);
        comesBack(200, 201, 202, T, E, I, I, E);
        comesBack(200, 201, 202, 203, T, E, I, E);
        comesBack(200, 201, 202, 203, 204, T, I, E);
        comesBack(200, 201, 202, 203, 204, 205, T, E);
        comesBack(200, 201, 202, 203, 204, 205, T, I);
        comesBack(200, 201, 202, 203, 204, 205, 206, T);
    }

    private static void comesBack(int... group) {
        LineBlocks x = Blocks.locked();
        Blocks.putAll(x, group);
        CHECK.due("receive(66)", x.receive(66), 1);
        Blocks.isTold(CHECK, x, 0, group);
    }

    private static void dataOfAnyLowestByte() {
        CHECK.sentence("eight data: head 0 1, the bytes, place 0 lowest");
        for (int lowest = 0; lowest < 256; lowest++) {
            isRead(0, 1, 0xFF06050403020100L | lowest, lowest, 1, 2, 3, 4, 5, 6, 255);
        }
    }

    private static void everyType() {
        CHECK.sentence("READ, a payload of head 1 0 is of its type");
        for (int type = 0; type < 256; type++) {
            isRead(1, 0, type, groupOfType(type));
        }
    }

    /** What a payload is read as that has nothing but its type. */
    private static int[] groupOfType(int type) {
        for (int end = 0; end < 8; end++) {
            if (type == Blocks.END_TYPES[end]) {
                return ended(end);
            }
        }
        switch (type) {
            case 0x1E:
                return IDLES;
            case 0x78:
                return new int[] {S, 0, 0, 0, 0, 0, 0, 0};
            case 0x33:
                return MIDDLE;
            default:
                return Blocks.ERRORS;
        }
    }

    private static void otherTypesWithOtherBits() {
        CHECK.sentence("With another type, or a head 0 0 or 1 1, it is the group of eight ERRORs");
        for (int type = 0; type < 256; type++) {
            if (groupOfType(type) == Blocks.ERRORS) {
                isRead(1, 0, 0x0807060504030200L | type, Blocks.ERRORS);
                isRead(1, 0, 0xFFFFFFFFFFFFFF00L | type, Blocks.ERRORS);
            }
        }
    }

    private static void everyCodeOfEight() {
        CHECK.sentence("codes but 0 and 1E are ERROR");
        for (int place = 0; place < 8; place++) {
            for (int code = 0; code < 128; code++) {
                isRead(1, 0, 0x1E | (long) code << 8 + 7 * place, with(IDLES, place, read(code)));
            }
        }
    }

    private static void everyCodeBeforeAStart() {
        CHECK.sentence("codes but 0 and 1E are ERROR");
        for (int place = 0; place < 4; place++) {
            for (int code = 0; code < 128; code++) {
                isRead(1, 0, 0x33 | (long) code << 8 + 7 * place, with(MIDDLE, place, read(code)));
            }
        }
    }

    private static void everyCodeBehindAnEnd() {
        CHECK.sentence("codes but 0 and 1E are ERROR");
        for (int end = 0; end < 8; end++) {
            for (int place = end + 1; place < 8; place++) {
                for (int code = 0; code < 128; code++) {
                    long payload = Blocks.END_TYPES[end] | (long) code << 64 - 7 * (8 - place);
                    isRead(1, 0, payload, with(ended(end), place, read(code)));
                }
            }
        }
    }

    private static int read(int code) {
        return code == 0 ? I : E;
    }

    private static void bitsThatShouldBeZero() {
        CHECK.sentence("bits that should be 0 are not looked at");
        isRead(1, 0, 0x33L | 0xFL << 36, MIDDLE);
        for (int bit = 36; bit < 40; bit++) {
            isRead(1, 0, 0x33L | 1L << bit, MIDDLE);
        }
        for (int end = 0; end < 8; end++) {
            long all = Blocks.END_TYPES[end];
            for (int bit = 8 + 8 * end; bit < 64 - 7 * (7 - end); bit++) {
                isRead(1, 0, Blocks.END_TYPES[end] | 1L << bit, ended(end));
                all |= 1L << bit;
            }
            isRead(1, 0, all, ended(end));
        }
    }

    private static void wrongHeads() {
        CHECK.sentence("or a head 0 0 or 1 1, it is the group of eight ERRORs");
        for (int type = 0; type < 256; type++) {
            isRead(0, 0, 0x0807060504030200L | type, Blocks.ERRORS);
            isRead(1, 1, 0x0807060504030200L | type, Blocks.ERRORS);
        }
        isRead(0, 0, 0x1E, Blocks.ERRORS);
        isRead(1, 1, 0x1E, Blocks.ERRORS);
    }
}
