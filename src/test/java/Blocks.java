/** What the tests say of blocks on the line: written from the document, without the program. */
final class Blocks {
    static final int IDLE = 256, START = 257, END = 258, ERROR = 259;
    static final long EIGHT_ERRORS = 0x3C78F1E3C78F1E1EL;
    static final long STATE_MASK = 0x3FFFFFFFFFFFFFFL;

    private Blocks() {
    }

    /** The two head bits of the block from bit `from` on, as written: 1 for 0 1, 10 for 1 0. */
    static int head(LineBlocks x, int from) {
        return x.bit(from) * 10 + x.bit(from + 1);
    }

    /** The payload of the block from bit `from` on, scrambled back with the state before it. */
    static long payload(LineBlocks x, int from, long state) {
        int[] sent = new int[58 + 64];
        for (int k = 0; k < 58; k++) {
            sent[57 - k] = (int) (state >>> k) & 1;
        }
        long payload = 0;
        for (int k = 0; k < 64; k++) {
            sent[58 + k] = x.bit(from + 2 + k);
            long plain = sent[58 + k] ^ sent[58 + k - 39] ^ sent[k];
            payload |= plain << k;
        }
        return payload;
    }

    /** A state after the 64 payload bits of the block from bit `from` on have gone by. */
    static long stateBehind(LineBlocks x, int from) {
        long state = 0;
        for (int k = 0; k < 64; k++) {
            state = state << 1 | x.bit(from + 2 + k);
        }
        return state & STATE_MASK;
    }

    /** Puts the characters and answers what the last put answered. */
    static int putAll(LineBlocks x, int... characters) {
        int answer = 0;
        for (int c : characters) {
            answer = x.put(c);
        }
        return answer;
    }

    /** Sends any payload as a data block; the head can be turned afterwards. */
    static void sendPayload(LineBlocks x, long payload) {
        long lowestFirst = Long.reverseBytes(payload);
        x.word((int) (lowestFirst >>> 32), (int) lowestFirst);
    }

    /** An object whose receiver has just been locked, with nothing on the line. */
    static LineBlocks locked() {
        LineBlocks x = new LineBlocks();
        x.idle(64);
        x.receive(64 * 66);
        return x;
    }
}
