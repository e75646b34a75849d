import java.util.ArrayList;
import java.util.List;

/**
 * The document written a second time, with bits in lists and payloads in the order of their bits,
 * as plainly as it can be and with nothing of the program: what ModelTest holds the program
 * against.
 */
final class Model {
    private static final int IDLE = 256, START = 257, END = 258, ERROR = 259;
    private static final int NONE = -1, OUTSIDE = -12, ROOM = -14;
    private static final List<Integer> END_TYPES =
            List.of(0x87, 0x99, 0xAA, 0xB4, 0xCC, 0xD2, 0xE1, 0xFF);

    private final List<Integer> line = new ArrayList<>();
    private final List<Integer> waiting = new ArrayList<>();
    // Payload bits of each side, oldest first; the last 58 are its state.
    private final List<List<Integer>> sides = List.of(zeros(), zeros());

    private final List<Integer> block = new ArrayList<>();
    private final List<Integer> plain = new ArrayList<>();
    private final List<List<Integer>> told = new ArrayList<>();
    // One entry for each block since it got locked: whether its head cannot be.
    private final List<Boolean> sinceLocked = new ArrayList<>();
    private boolean locked;
    private boolean mustDrop;
    private int hits;
    private int slips;

    int put(int c) {
        if (c < 0 || c > 259) {
            return OUTSIDE;
        }
        if (waiting.size() == 7 && line.size() >= 9000) {
            return ROOM;
        }
        waiting.add(c);
        if (waiting.size() == 8) {
            send(waiting);
            waiting.clear();
        }
        return waiting.size();
    }

    int word(int w, int v) {
        if (line.size() >= 9000) {
            return ROOM;
        }
        for (int x : new int[] {w, v}) {
            put(x >> 24 & 255);
            put(x >> 16 & 255);
            put(x >> 8 & 255);
            put(x & 255);
        }
        return waiting.size();
    }

    int idle(int n) {
        if (n < 1 || n > 100 || !waiting.isEmpty()) {
            return OUTSIDE;
        }
        if (line.size() + 66 * (n - 1) >= 9000) {
            return ROOM;
        }
        for (int k = 0; k < n; k++) {
            send(List.of(IDLE, IDLE, IDLE, IDLE, IDLE, IDLE, IDLE, IDLE));
        }
        return line.size();
    }

    long state(int side, long v) {
        if (side != 0 && side != 1) {
            return OUTSIDE;
        }
        List<Integer> bits = sides.get(side);
        long was = 0;
        for (int k = 57; k >= 0; k--) {
            was = was * 2 + before(bits, k + 1);
        }
        for (int k = 57; k >= 0; k--) {
            bits.add((int) (v >> k & 1));
        }
        return was;
    }

    int bits() {
        return line.size();
    }

    int bit(int i) {
        return i < 0 || i >= line.size() ? NONE : line.get(i);
    }

    int turn(int i) {
        if (i < 0 || i >= line.size()) {
            return OUTSIDE;
        }
        line.set(i, 1 - line.get(i));
        return line.get(i);
    }

    int add(int b) {
        if (b < 0 || b > 1) {
            return OUTSIDE;
        }
        if (line.size() == 9066) {
            return ROOM;
        }
        line.add(b);
        return line.size();
    }

    int receive(int n) {
        if (n < 0) {
            return OUTSIDE;
        }
        int before = told.size();
        List<Integer> first = line.subList(0, Math.min(n, line.size()));
        for (int b : first) {
            take(b);
        }
        first.clear();
        return told.size() - before;
    }

    int told(int i, int j) {
        if (i < 0 || i >= told.size() || told.size() - i > 300 || j < 0 || j > 7) {
            return NONE;
        }
        return told.get(i).get(j);
    }

    int receiver(int what) {
        switch (what) {
            case 0:
                return locked ? 1 : 0;
            case 1:
                return locked ? 0 : hits;
            case 2:
                return slips;
            case 3:
                return block.size();
            case 4:
                return told.size();
            case 5:
                return locked ? wrongInRow(sinceLocked.size() / 64 * 64) : 0;
            default:
                return OUTSIDE;
        }
    }

    private static List<Integer> zeros() {
        List<Integer> zeros = new ArrayList<>();
        for (int k = 0; k < 58; k++) {
            zeros.add(0);
        }
        return zeros;
    }

    private static int before(List<Integer> bits, int n) {
        return bits.get(bits.size() - n);
    }

    private static int mixed(List<Integer> bits, int b) {
        return (b + before(bits, 39) + before(bits, 58)) % 2;
    }

    private void send(List<Integer> group) {
        List<Integer> payload = payload(group);
        boolean data = allData(group);
        line.add(data ? 0 : 1);
        line.add(data ? 1 : 0);
        for (int b : payload) {
            int out = mixed(sides.get(0), b);
            sides.get(0).add(out);
            line.add(out);
        }
    }

    private static boolean allData(List<Integer> group) {
        return group.stream().allMatch(c -> c < 256);
    }

    /** The group as letters: d for data, c for IDLE or ERROR, S, T. */
    private static String shape(List<Integer> group) {
        StringBuilder shape = new StringBuilder();
        for (int c : group) {
            shape.append(c < 256 ? 'd' : c == START ? 'S' : c == END ? 'T' : 'c');
        }
        return shape.toString();
    }

    private static List<Integer> payload(List<Integer> group) {
        List<Integer> bits = new ArrayList<>();
        String shape = shape(group);
        if (shape.equals("dddddddd")) {
            write(bits, group, 0, 8);
        } else if (shape.equals("cccccccc")) {
            append(bits, 0x1E, 8);
            write(bits, group, 0, 8);
        } else if (shape.equals("Sddddddd")) {
            append(bits, 0x78, 8);
            write(bits, group, 1, 8);
        } else if (shape.equals("ccccSddd")) {
            append(bits, 0x33, 8);
            write(bits, group, 0, 4);
            append(bits, 0, 4);
            write(bits, group, 5, 8);
        } else if (shape.matches("d*Tc*")) {
            int end = shape.indexOf('T');
            append(bits, END_TYPES.get(end), 8);
            write(bits, group, 0, end);
            append(bits, 0, 64 - bits.size() - 7 * (7 - end));
            write(bits, group, end + 1, 8);
        } else {
            return payload(List.of(ERROR, ERROR, ERROR, ERROR, ERROR, ERROR, ERROR, ERROR));
        }
        return bits;
    }

    private static void write(List<Integer> bits, List<Integer> group, int from, int to) {
        for (int c : group.subList(from, to)) {
            if (c < 256) {
                append(bits, c, 8);
            } else {
                append(bits, c == ERROR ? 0x1E : 0, 7);
            }
        }
    }

    private static void append(List<Integer> bits, int value, int n) {
        for (int k = 0; k < n; k++) {
            bits.add(value >> k & 1);
        }
    }

    private void take(int b) {
        if (mustDrop) {
            mustDrop = false;
            return;
        }
        block.add(b);
        if (block.size() > 2) {
            plain.add(mixed(sides.get(1), b));
            sides.get(1).add(b);
        }
        if (block.size() == 66) {
            whole(block.get(0), block.get(1));
            block.clear();
            plain.clear();
        }
    }

    private void whole(int first, int second) {
        boolean wrong = first == second;
        if (!locked) {
            hits = wrong ? 0 : hits + 1;
            if (wrong) {
                slip();
            }
            locked = hits == 64;
            return;
        }
        told.add(wrong ? read("EEEEEEEE") : first == 0 ? read("dddddddd") : readTyped());
        sinceLocked.add(wrong);
        if (wrongInRow((sinceLocked.size() - 1) / 64 * 64) == 16) {
            slip();
        }
    }

    private void slip() {
        locked = false;
        hits = 0;
        sinceLocked.clear();
        slips++;
        mustDrop = true;
    }

    private int wrongInRow(int from) {
        int wrong = 0;
        for (boolean w : sinceLocked.subList(from, sinceLocked.size())) {
            wrong += w ? 1 : 0;
        }
        return wrong;
    }

    private List<Integer> readTyped() {
        int type = number(0, 8);
        if (END_TYPES.contains(type)) {
            int end = END_TYPES.indexOf(type);
            return read("t" + "d".repeat(end) + "T"
                    + "z".repeat(64 - 8 - 8 * end - 7 * (7 - end)) + "c".repeat(7 - end));
        }
        switch (type) {
            case 0x1E:
                return read("tcccccccc");
            case 0x78:
                return read("tSddddddd");
            case 0x33:
                return read("tccccSzzzzddd");
            default:
                return read("EEEEEEEE");
        }
    }

    /** Reads along a plan: t the type, d a byte, c a code, z a bit that is not looked at. */
    private List<Integer> read(String plan) {
        List<Integer> group = new ArrayList<>();
        int at = 0;
        for (char step : plan.toCharArray()) {
            switch (step) {
                case 't':
                    at += 8;
                    break;
                case 'd':
                    group.add(number(at, 8));
                    at += 8;
                    break;
                case 'c':
                    group.add(number(at, 7) == 0 ? IDLE : ERROR);
                    at += 7;
                    break;
                case 'z':
                    at += 1;
                    break;
                default:
                    group.add(step == 'S' ? START : step == 'T' ? END : ERROR);
                    break;
            }
        }
        return group;
    }

    private int number(int from, int n) {
        int value = 0;
        for (int k = 0; k < n; k++) {
            value += plain.get(from + k) << k;
        }
        return value;
    }
}
