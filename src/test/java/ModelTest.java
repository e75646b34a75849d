/** Long mixed runs of calls, each answer held against the Model's: the same runs every time. */
public final class ModelTest {
    private static final int RUNS = 400, CALLS = 512;
    private static final int[] EDGES = {Integer.MIN_VALUE, -300, -2, -1, 0, 1, 2, 7, 8, 65, 66, 67,
        100, 101, 255, 256, 259, 260, 299, 300, 301, 8999, 9000, 9001, 9065, 9066, 9067, 9088,
        Integer.MAX_VALUE};
    private static final String[] SHAPES = {"dddddddd", "cccccccc", "Sddddddd", "ccccSddd",
        "Tccccccc", "dTcccccc", "ddTccccc", "dddTcccc", "ddddTccc", "dddddTcc", "ddddddTc",
        "dddddddT"};

    private final Check check;
    private final LineBlocks x = new LineBlocks();
    private final Model model = new Model();
    private final int run;
    private long seed;

    private ModelTest(Check check, int run) {
        this.check = check;
        this.run = run;
        this.seed = run * 7919L + 17;
    }

    public static void main(String[] args) {
        Check check = new Check("ModelTest");
        for (int run = 0; run < RUNS; run++) {
            new ModelTest(check, run).go();
        }
        check.end();
    }

    private void go() {
        int calls = 0;
        if (run % 4 != 0) {
            idle(64 + below(37));
            receive(9999);
            calls = 2;
        }
        // A step has up to eight calls, and so has the end.
        while (calls <= CALLS - 16) {
            calls += step();
        }
        for (int what = 0; what < 6; what++) {
            receiver(what);
        }
        state(0, 0);
        state(1, 0);
    }

    /** One to eight calls of a kind that the run prefers; answers how many. */
    private int step() {
        switch (below(16)) {
            case 0:
                return group();
            case 1:
                word(number(), number());
                return 1;
            case 2:
                word(number(), number());
                turn(model.bits() - 66);
                turn(model.bits() - 65);
                return 3;
            case 3:
                idle(below(3) == 0 ? edge() : 1 + below(run % 5 == 0 ? 100 : 20));
                return 1;
            case 4:
                state(below(8) == 0 ? edge() : below(2), (long) number() << 32 | below(1 << 30));
                return 1;
            case 5:
                bit(below(4) == 0 ? edge() : below(model.bits() + 2));
                return 1;
            case 6:
                turn(below(4) == 0 ? edge() : below(model.bits() + 2));
                return 1;
            case 7:
                add(below(8) == 0 ? edge() : below(2));
                return 1;
            case 8:
                receive(below(4) == 0 ? edge() : below(300));
                return 1;
            case 9:
            case 10:
                receive(66 * (1 + below(20)));
                return 1;
            case 11:
                told(below(4) == 0 ? edge() : latest(), below(8) == 0 ? edge() : below(8));
                return 1;
            case 12:
                receiver(below(8) == 0 ? edge() : below(6));
                return 1;
            case 13:
                return wrongHeads();
            case 14:
                return toldGroup();
            default:
                bits();
                return 1;
        }
    }

    /** Eight puts of a group that has a type, or of one that misses it by a character. */
    private int group() {
        String shape = SHAPES[below(SHAPES.length)];
        int spoiled = below(24);
        for (int place = 0; place < 8; place++) {
            put(place == spoiled ? 250 + below(11) : character(shape.charAt(place)));
        }
        return 8;
    }

    private int character(char kind) {
        switch (kind) {
            case 'd':
                return below(256);
            case 'S':
                return 257;
            case 'T':
                return 258;
            default:
                return below(2) == 0 ? 256 : 259;
        }
    }

    private int wrongHeads() {
        int n = 1 + below(7);
        for (int k = 0; k < n; k++) {
            turn(66 * k + below(2));
        }
        return n;
    }

    private int toldGroup() {
        int i = latest();
        for (int j = 0; j < 8; j++) {
            told(i, j);
        }
        return 8;
    }

    private int latest() {
        return model.receiver(4) - 1 - below(310) / (1 + below(40));
    }

    private int below(int n) {
        seed = seed * 6364136223846793005L + 1442695040888963407L;
        return (int) ((seed >>> 33) % n);
    }

    private int number() {
        int type = new int[] {0x1E, 0x78, 0x33, 0x87, 0x99, 0xAA, 0xB4, 0xCC, 0xD2, 0xE1, 0xFF,
            below(256)}[below(12)];
        return type << 24 | below(1 << 24);
    }

    private int edge() {
        return EDGES[below(EDGES.length)];
    }

    private void due(String call, long got, long want) {
        check.due("run " + run + ", " + call, got, want);
    }

    private void put(int c) {
        due("put(" + c + ")", x.put(c), model.put(c));
    }

    private void word(int w, int v) {
        due("word(" + w + ", " + v + ")", x.word(w, v), model.word(w, v));
    }

    private void idle(int n) {
        due("idle(" + n + ")", x.idle(n), model.idle(n));
    }

    private void state(int side, long v) {
        due("state(" + side + ", " + v + ")", x.state(side, v), model.state(side, v));
    }

    private void bits() {
        due("bits()", x.bits(), model.bits());
    }

    private void bit(int i) {
        due("bit(" + i + ")", x.bit(i), model.bit(i));
    }

    private void turn(int i) {
        due("turn(" + i + ")", x.turn(i), model.turn(i));
    }

    private void add(int b) {
        due("add(" + b + ")", x.add(b), model.add(b));
    }

    private void receive(int n) {
        due("receive(" + n + ")", x.receive(n), model.receive(n));
    }

    private void told(int i, int j) {
        due("told(" + i + ", " + j + ")", x.told(i, j), model.told(i, j));
    }

    private void receiver(int what) {
        due("receiver(" + what + ")", x.receiver(what), model.receiver(what));
    }
}
