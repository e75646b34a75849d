import java.util.Arrays;

/**
 * Characters put into scrambled blocks of 66 bits on a line of bits, and a receiver that finds
 * the blocks there and tells the characters again.
 */
public final class LineBlocks {
    public static final int NONE = -1;
    public static final int OUTSIDE = -12, ROOM = -14;

    private static final int IDLE = 256, START = 257, END = 258, ERROR = 259;
    private static final int DATA_VALUES = 256;
    private static final int GROUP_SIZE = 8;

    private static final int HEAD_BITS = 2, PAYLOAD_BITS = 64;
    private static final int BLOCK_BITS = HEAD_BITS + PAYLOAD_BITS;
    // A head as a number: its first bit is the higher one, as the document writes it.
    private static final int DATA_HEAD = 0b01, TYPED_HEAD = 0b10;

    // Blocks go out while the line is below FULL, so that even the last one ends within LINE_BITS.
    private static final int FULL = 9000, LINE_BITS = 9066;
    private static final int MOST_IDLE_GROUPS = 100;

    private final Line line;
    private final Sender sender;
    private final Receiver taker;

    public LineBlocks() {
        line = new Line();
        sender = new Sender();
        taker = new Receiver();
    }

    public int put(int c) {
        if (c < 0 || c > ERROR) {
            return OUTSIDE;
        }
        if (sender.waitingCount() == GROUP_SIZE - 1 && line.size() >= FULL) {
            return ROOM;
        }
        sender.accept(c, line);
        return sender.waitingCount();
    }

    public int word(int w, int v) {
        if (line.size() >= FULL) {
            return ROOM;
        }
        sender.acceptBytes(w, line);
        sender.acceptBytes(v, line);
        return sender.waitingCount();
    }

    public int idle(int n) {
        if (n < 1 || n > MOST_IDLE_GROUPS || sender.waitingCount() != 0) {
            return OUTSIDE;
        }
        if (line.size() + (n - 1) * BLOCK_BITS >= FULL) {
            return ROOM;
        }
        sender.sendIdleGroups(n, line);
        return line.size();
    }

    public long state(int side, long v) {
        if (side == 0) {
            return sender.exchangeState(v);
        }
        if (side == 1) {
            return taker.exchangeState(v);
        }
        return OUTSIDE;
    }

    public int bits() {
        return line.size();
    }

    public int bit(int i) {
        return line.has(i) ? line.at(i) : NONE;
    }

    public int turn(int i) {
        if (!line.has(i)) {
            return OUTSIDE;
        }
        line.flip(i);
        return line.at(i);
    }

    public int add(int b) {
        if (b != 0 && b != 1) {
            return OUTSIDE;
        }
        if (line.size() >= LINE_BITS) {
            return ROOM;
        }
        line.append(b);
        return line.size();
    }

    public int receive(int n) {
        if (n < 0) {
            return OUTSIDE;
        }
        int before = taker.groupCount();
        int taken = Math.min(n, line.size());
        for (int k = 0; k < taken; k++) {
            taker.take(line.at(k));
        }
        line.dropFirst(taken);
        return taker.groupCount() - before;
    }

    public int told(int i, int j) {
        return taker.character(i, j);
    }

    public int receiver(int what) {
        switch (what) {
            case 0:
                return taker.isLocked() ? 1 : 0;
            case 1:
                return taker.hitCount();
            case 2:
                return taker.slipCount();
            case 3:
                return taker.bitsOfBlock();
            case 4:
                return taker.groupCount();
            case 5:
                return taker.wrongHeadCount();
            default:
                return OUTSIDE;
        }
    }

    /** The bits on the line: a ring, so that taking from its front moves nothing. */
    private static final class Line {
        private static final int WORD_BITS = 64;
        private static final int WORDS = (LINE_BITS + WORD_BITS - 1) / WORD_BITS;
        private static final int RING_BITS = WORDS * WORD_BITS;

        private final long[] words = new long[WORDS];
        private int first;
        private int count;

        int size() {
            return count;
        }

        boolean has(int i) {
            return i >= 0 && i < count;
        }

        int at(int i) {
            int p = ringPlace(i);
            return (int) (words[p / WORD_BITS] >>> (p % WORD_BITS)) & 1;
        }

        void flip(int i) {
            int p = ringPlace(i);
            words[p / WORD_BITS] ^= 1L << (p % WORD_BITS);
        }

        void append(int b) {
            int p = ringPlace(count);
            // What stood in this place of the ring earlier is still there.
            words[p / WORD_BITS] &= ~(1L << (p % WORD_BITS));
            words[p / WORD_BITS] |= (long) b << (p % WORD_BITS);
            count++;
        }

        void dropFirst(int n) {
            first = ringPlace(n);
            count -= n;
        }

        private int ringPlace(int i) {
            return Math.floorMod(first + i, RING_BITS);
        }
    }

    /** The last 58 bits of payloads that one side has seen on the line, and the xor with them. */
    private static final class Scrambler {
        private static final long STATE_MASK = (1L << 58) - 1;

        private long latest;

        long exchange(long v) {
            long was = latest;
            latest = v & STATE_MASK;
            return was;
        }

        int scramble(int b) {
            int out = mixed(b);
            keep(out);
            return out;
        }

        int unscramble(int b) {
            int plain = mixed(b);
            keep(b);
            return plain;
        }

        private int mixed(int b) {
            int before39 = (int) (latest >>> 38) & 1;
            int before58 = (int) (latest >>> 57) & 1;
            return b ^ before39 ^ before58;
        }

        private void keep(int b) {
            latest = ((latest << 1) | b) & STATE_MASK;
        }
    }

    /** Groups as payloads, and payloads read as characters again. */
    private static final class Codec {
        // These two stand beside the type bytes 0 .. 255 and are none of them.
        private static final int ALL_DATA = -1, NO_TYPE = -2;
        private static final int ALL_CODES = 0x1E, START_FIRST = 0x78, START_MIDDLE = 0x33;
        // The type of a group with END at place d is at index d.
        private static final int[] END_TYPES = {0x87, 0x99, 0xAA, 0xB4, 0xCC, 0xD2, 0xE1, 0xFF};
        private static final int MIDDLE = 4;

        private static final int TYPE_BITS = 8, TYPE_MASK = 0xFF;
        private static final int BYTE_BITS = 8, BYTE_MASK = 0xFF;
        private static final int CODE_BITS = 7, CODE_MASK = 0x7F;
        private static final int IDLE_CODE = 0, ERROR_CODE = 0x1E;

        static int typeOfGroup(int[] group) {
            int data = leadingData(group);
            if (data == GROUP_SIZE) {
                return ALL_DATA;
            }
            if (group[data] == END && areIdleOrError(group, data + 1, GROUP_SIZE)) {
                return END_TYPES[data];
            }
            if (group[0] == START && areData(group, 1)) {
                return START_FIRST;
            }
            if (areIdleOrError(group, 0, MIDDLE) && group[MIDDLE] == START
                    && areData(group, MIDDLE + 1)) {
                return START_MIDDLE;
            }
            return areIdleOrError(group, 0, GROUP_SIZE) ? ALL_CODES : NO_TYPE;
        }

        /** The payload of a group that is of this type. */
        static long payloadOf(int type, int[] group) {
            long payload = type == ALL_DATA ? 0 : type;
            for (int place = 0; place < GROUP_SIZE; place++) {
                payload |= bitsOf(type, group[place], place);
            }
            return payload;
        }

        static int typeOfBlock(int head, long payload) {
            if (head == DATA_HEAD) {
                return ALL_DATA;
            }
            return head == TYPED_HEAD ? (int) payload & TYPE_MASK : NO_TYPE;
        }

        static int characterOf(int type, long payload, int place) {
            int end = endPlace(type);
            if (end != NONE) {
                return characterByEnd(end, type, payload, place);
            }
            switch (type) {
                case ALL_DATA:
                    return dataAt(type, payload, place);
                case ALL_CODES:
                    return codedAt(payload, place);
                case START_FIRST:
                    return place == 0 ? START : dataAt(type, payload, place);
                case START_MIDDLE:
                    return characterByMiddleStart(payload, place);
                default:
                    return ERROR;
            }
        }

        private static int characterByEnd(int end, int type, long payload, int place) {
            if (place == end) {
                return END;
            }
            return place < end ? dataAt(type, payload, place) : codedAt(payload, place);
        }

        private static int characterByMiddleStart(long payload, int place) {
            if (place == MIDDLE) {
                return START;
            }
            return place < MIDDLE ? codedAt(payload, place) : dataAt(START_MIDDLE, payload, place);
        }

        private static int dataAt(int type, long payload, int place) {
            return (int) (payload >>> dataShift(type, place)) & BYTE_MASK;
        }

        private static int codedAt(long payload, int place) {
            int code = (int) (payload >>> codeShift(place)) & CODE_MASK;
            return code == IDLE_CODE ? IDLE : ERROR;
        }

        private static long bitsOf(int type, int c, int place) {
            if (isData(c)) {
                return (long) c << dataShift(type, place);
            }
            // START and END are told by the type alone; the code of IDLE is 0.
            return c == ERROR ? (long) ERROR_CODE << codeShift(place) : 0;
        }

        // Behind the type come the bytes in front of an END. In all other blocks with data the
        // bytes end at bit 63, as if the type stood in place 0.
        private static int dataShift(int type, int place) {
            return endPlace(type) == NONE ? place * BYTE_BITS : TYPE_BITS + place * BYTE_BITS;
        }

        // Eight codes fill the payload behind the type: so a place's code is at the same bits in
        // every type, whether codes are counted from bit 8 on or back from bit 63.
        private static int codeShift(int place) {
            return TYPE_BITS + place * CODE_BITS;
        }

        private static int endPlace(int type) {
            for (int d = 0; d < END_TYPES.length; d++) {
                if (END_TYPES[d] == type) {
                    return d;
                }
            }
            return NONE;
        }

        private static int leadingData(int[] group) {
            int data = 0;
            while (data < GROUP_SIZE && isData(group[data])) {
                data++;
            }
            return data;
        }

        private static boolean areData(int[] group, int from) {
            for (int place = from; place < GROUP_SIZE; place++) {
                if (!isData(group[place])) {
                    return false;
                }
            }
            return true;
        }

        private static boolean areIdleOrError(int[] group, int from, int to) {
            for (int place = from; place < to; place++) {
                if (group[place] != IDLE && group[place] != ERROR) {
                    return false;
                }
            }
            return true;
        }

        private static boolean isData(int c) {
            return c < DATA_VALUES;
        }
    }

    /** Gathers characters into groups and sends these as blocks onto the line. */
    private static final class Sender {
        private static final int BYTES_OF_INT = 4;
        private static final long IDLE_PAYLOAD = Codec.ALL_CODES;

        private final Scrambler scrambler = new Scrambler();
        private final int[] group = new int[GROUP_SIZE];
        private int waiting;

        int waitingCount() {
            return waiting;
        }

        long exchangeState(long v) {
            return scrambler.exchange(v);
        }

        void accept(int c, Line line) {
            group[waiting] = c;
            waiting++;
            if (waiting == GROUP_SIZE) {
                waiting = 0;
                sendGroup(line);
            }
        }

        void acceptBytes(int w, Line line) {
            for (int k = BYTES_OF_INT - 1; k >= 0; k--) {
                accept((w >>> (k * Codec.BYTE_BITS)) & Codec.BYTE_MASK, line);
            }
        }

        void sendIdleGroups(int n, Line line) {
            for (int k = 0; k < n; k++) {
                sendBlock(TYPED_HEAD, IDLE_PAYLOAD, line);
            }
        }

        private void sendGroup(Line line) {
            int type = Codec.typeOfGroup(group);
            if (type == Codec.NO_TYPE) {
                Arrays.fill(group, ERROR);
                type = Codec.ALL_CODES;
            }
            int head = type == Codec.ALL_DATA ? DATA_HEAD : TYPED_HEAD;
            sendBlock(head, Codec.payloadOf(type, group), line);
        }

        private void sendBlock(int head, long payload, Line line) {
            line.append(head >>> 1);
            line.append(head & 1);
            for (int k = 0; k < PAYLOAD_BITS; k++) {
                line.append(scrambler.scramble((int) (payload >>> k) & 1));
            }
        }
    }

    /** Finds where blocks begin and tells their groups while it is locked. */
    private static final class Receiver {
        private static final int HITS_TO_LOCK = 64;
        private static final int ROW_BLOCKS = 64, WRONG_HEADS_TO_UNLOCK = 16;

        private final Scrambler scrambler = new Scrambler();
        private final Groups groups = new Groups();
        private int head;
        private long payload;
        private int have;
        private boolean locked;
        private boolean dropsNext;
        private int hits;
        private int slips;
        private int blocksOfRow;
        private int wrongHeads;

        boolean isLocked() {
            return locked;
        }

        int hitCount() {
            return hits;
        }

        int slipCount() {
            return slips;
        }

        int bitsOfBlock() {
            return have;
        }

        int groupCount() {
            return groups.count();
        }

        int wrongHeadCount() {
            return wrongHeads;
        }

        int character(int i, int j) {
            return groups.character(i, j);
        }

        long exchangeState(long v) {
            return scrambler.exchange(v);
        }

        void take(int b) {
            if (dropsNext) {
                dropsNext = false;
                return;
            }
            if (have < HEAD_BITS) {
                head = (head << 1) | b;
            } else {
                payload |= (long) scrambler.unscramble(b) << (have - HEAD_BITS);
            }
            have++;
            if (have == BLOCK_BITS) {
                endBlock();
                beginBlock();
            }
        }

        private void beginBlock() {
            head = 0;
            payload = 0;
            have = 0;
        }

        private void endBlock() {
            boolean headFits = head == DATA_HEAD || head == TYPED_HEAD;
            if (locked) {
                groups.keep(Codec.typeOfBlock(head, payload), payload);
                countInRow(headFits);
            } else {
                countHit(headFits);
            }
        }

        private void countHit(boolean headFits) {
            if (!headFits) {
                slip();
                return;
            }
            hits++;
            if (hits == HITS_TO_LOCK) {
                locked = true;
                hits = 0;
            }
        }

        private void countInRow(boolean headFits) {
            blocksOfRow++;
            if (!headFits) {
                wrongHeads++;
            }
            // The last block of a row may hold its 16th wrong head: so the row ends after this.
            if (wrongHeads == WRONG_HEADS_TO_UNLOCK) {
                slip();
            } else if (blocksOfRow == ROW_BLOCKS) {
                beginRow();
            }
        }

        private void beginRow() {
            blocksOfRow = 0;
            wrongHeads = 0;
        }

        private void slip() {
            locked = false;
            hits = 0;
            // No row is counted while unlocked; the next lock finds a new one here.
            beginRow();
            slips++;
            // The line may be empty now: the bit is dropped when it comes.
            dropsNext = true;
        }
    }

    /** The latest groups that were told, held as blocks and read when they are asked for. */
    private static final class Groups {
        private static final int KEPT = 300;

        private final int[] types = new int[KEPT];
        private final long[] payloads = new long[KEPT];
        private int count;

        int count() {
            return count;
        }

        void keep(int type, long payload) {
            int slot = slotOf(count);
            types[slot] = type;
            payloads[slot] = payload;
            count++;
        }

        int character(int i, int j) {
            if (j < 0 || j >= GROUP_SIZE || !isKept(i)) {
                return NONE;
            }
            int slot = slotOf(i);
            return Codec.characterOf(types[slot], payloads[slot], j);
        }

        private boolean isKept(int i) {
            return i >= 0 && i < count && i >= count - KEPT;
        }

        private static int slotOf(int i) {
            return Math.floorMod(i, KEPT);
        }
    }
}
