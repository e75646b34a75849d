/** What the tests say of blocks and lines: written from the document, without the program. */
final class Blocks {
    static final int IDLE = 256, START = 257, END = 258, ERROR = 259;
    static final int[] ERRORS = {ERROR, ERROR, ERROR, ERROR, ERROR, ERROR, ERROR, ERROR};
    static final int[] END_TYPES = {0x87, 0x99, 0xAA, 0xB4, 0xCC, 0xD2, 0xE1, 0xFF};
    static final long EIGHT_ERRORS = 0x3C78F1E3C78F1E1EL;
    static final long STATE_MASK = 0x3FFFFFFFFFFFFFFL;
    /** Numbers far outside: a narrowing or a sum that wraps around would let them in. */
    static final int MIN = Integer.MIN_VALUE, MAX = Integer.MAX_VALUE;

    private Blocks() {
    }

    /** The two head bits of the block from bit `from` on, as written: 1 for 0 1, 10 for 1 0. */
    static int head(LineBlocks x, int from) {
        return x.bit(from) * 10 + x.bit(from + 1);
    }

    /** The payload of the block from bit `from` on, scrambled back with the state before it. */
    static long payload(LineBlocks x, int from, long state) {
        int[] sent = new int[58 + 64];
        for (int k = 0; k < 58; k++) {
            sent[57 - k] = (int) (state >>> k) & 1;
        }
        long payload = 0;
        for (int k = 0; k < 64; k++) {
            sent[58 + k] = x.bit(from + 2 + k);
            long plain = sent[58 + k] ^ sent[58 + k - 39] ^ sent[k];
            payload |= plain << k;
        }
        return payload;
    }

    /** A state after the 64 payload bits of the block from bit `from` on have gone by. */
    static long stateBehind(LineBlocks x, int from) {
        long state = 0;
        for (int k = 0; k < 64; k++) {
            state = state << 1 | x.bit(from + 2 + k);
        }
        return state & STATE_MASK;
    }

    /** The sender's state, which stays as it is. */
    static long senderState(LineBlocks x) {
        long state = x.state(0, 0);
        x.state(0, state);
        return state;
    }

    /** Puts the characters and answers what the last put answered. */
    static int putAll(LineBlocks x, int... characters) {
        int answer = 0;
        for (int c : characters) {
            answer = x.put(c);
        }
        return answer;
    }

    static void addAll(LineBlocks x, int... bits) {
        for (int b : bits) {
            x.add(b);
        }
    }

    /** Sends any payload as a data block; the head can be turned afterwards. */
    static void sendPayload(LineBlocks x, long payload) {
        long lowestFirst = Long.reverseBytes(payload);
        x.word((int) (lowestFirst >>> 32), (int) lowestFirst);
    }

    /** Sends any payload behind any head, when nothing else is on the line. */
    static void sendAlone(LineBlocks x, int first, int second, long payload) {
        sendPayload(x, payload);
        if (first == 1) {
            x.turn(0);
        }
        if (second == 0) {
            x.turn(1);
        }
    }

    /** Sends a block of IDLEs alone, with a head that is 0 0 or 1 1, and has it taken. */
    static int takeWrong(LineBlocks x) {
        x.idle(1);
        x.turn(x.receiver(4) % 2);
        return x.receive(66);
    }

    /** Sends n blocks of IDLEs and has them taken. */
    static int takeRight(LineBlocks x, int n) {
        x.idle(n);
        return x.receive(n * 66);
    }

    /** A new object with so many bits on the line. */
    static LineBlocks filled(int bits) {
        LineBlocks x = new LineBlocks();
        int blocks = bits / 66;
        if (blocks > 100) {
            x.idle(100);
            blocks -= 100;
        }
        if (blocks > 0) {
            x.idle(blocks);
        }
        for (int k = bits % 66; k > 0; k--) {
            x.add(0);
        }
        return x;
    }

    /** A new object with so many characters of data waiting. */
    static LineBlocks waiting(int characters) {
        LineBlocks x = new LineBlocks();
        for (int k = 1; k <= characters; k++) {
            x.put(k);
        }
        return x;
    }

    /** An object whose receiver has just been locked, with nothing on the line. */
    static LineBlocks locked() {
        LineBlocks x = new LineBlocks();
        x.idle(64);
        x.receive(64 * 66);
        return x;
    }

    /** What receiver(0), receiver(1) and so on answer. */
    static void stands(Check check, LineBlocks x, String when, int... due) {
        for (int what = 0; what < due.length; what++) {
            check.due("receiver(" + what + ") " + when, x.receiver(what), due[what]);
        }
    }

    /** What told(i, 0), told(i, 1) and so on answer. */
    static void isTold(Check check, LineBlocks x, int i, int... group) {
        for (int j = 0; j < group.length; j++) {
            check.due("told(" + i + ", " + j + ")", x.told(i, j), group[j]);
        }
    }
}
