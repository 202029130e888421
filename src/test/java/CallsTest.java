import java.util.Random;

/** "What it is": an object is used for at most 512 calls; and the rule that no call ever throws. */
public final class CallsTest {
    private static final int CALLS = 512;
    private static final int[] EDGES = {
        Integer.MIN_VALUE, Integer.MIN_VALUE + 1, -16777216, -65536, -4097, -4096, -256, -48, -9, -8, -7, -1,
        0, 1, 2, 3, 4, 5, 7, 8, 9, 15, 16, 17, 19, 20, 35, 36, 47, 48, 255, 256, 4095, 4096, 4097, 65535, 65536,
        65537, 1048575, 1048576, 1048577, 16777215, 16777216, Integer.MAX_VALUE - 1, Integer.MAX_VALUE
    };
    private static final int STATES = 6;
    private static final Due due = new Due();

    public static void main(String[] args) {
        aPictureOfAsManyPiecesAsThereAreCallsFor();
        eachKindOfCallIsPromisedAsThe512th();
        callsOfOneKindDoNotWearOut();
        anyArgumentsInAnyState();
        laterCallsDoNotThrow();
        due.end();
    }

    private static void aPictureOfAsManyPiecesAsThereAreCallsFor() {
        due.says("What it is: at most 512 calls after it has been made, nearly all of them add");
        Pair pair = new Pair(due, "many pieces", 8, 8);
        pair.corner(1, 256, 0, 9, 65536);
        pair.corner(2, 0, 256, 9, 65536);
        while (pair.calls() < CALLS - 3) {
            pair.add(7919 * pair.calls(), pair.calls() % 40);
        }
        pair.begin();
        pair.tile(0);
        pair.pixel(3, 4);
        due.is("calls", pair.calls(), CALLS);
    }

    private static void call(Pair pair, int kind, int a, int b) {
        switch (kind) {
            case 0:
                pair.corner(a, b, b, 1, 1);
                break;
            case 1:
                pair.add(a, b);
                break;
            case 2:
                pair.clear();
                break;
            case 3:
                pair.background(a);
                break;
            case 4:
                pair.begin();
                break;
            case 5:
                pair.tile(a);
                break;
            case 6:
                pair.pixel(a, b);
                break;
            case 7:
                pair.nearness(a, b);
                break;
            default:
                pair.count(a);
                break;
        }
    }

    private static void eachKindOfCallIsPromisedAsThe512th() {
        due.says("What it is: at most 512 calls after it has been made: the 512th of each kind");
        for (int kind = 0; kind < 9; kind++) {
            Pair pair = new Pair(due, "kind " + kind + " is the last", 20, 12);
            bringTo(pair, 3);
            while (pair.calls() < CALLS - 1) {
                pair.count(pair.calls() % 7 - 1);
            }
            call(pair, kind, 1, 2);
            due.is("calls", pair.calls(), CALLS);
        }
    }

    private static void callsOfOneKindDoNotWearOut() {
        due.says("What it is: at most 512 calls after it has been made: all of one kind");
        for (int kind = 0; kind < 9; kind++) {
            Pair pair = new Pair(due, "kind " + kind + " again and again", 20, 12);
            bringTo(pair, 3);
            while (pair.calls() < CALLS) {
                call(pair, kind, pair.calls() % 3, 2);
            }
        }
    }

    /** State 0 is a new desk; each later one has more; 5 is a picture that began in place of another. */
    private static void bringTo(Pair pair, int state) {
        if (state >= 1) {
            pair.corner(0, -50, -60, 30, 65536);
            pair.corner(1, 500, 10, 900, 20000);
            pair.corner(2, 40, 400, 200, 40000);
            pair.add(0xF08040, 255);
            pair.add(0x20FF60, 77);
        }
        if (state >= 2) {
            pair.background(0x334455);
            pair.begin();
        }
        if (state >= 3) {
            pair.tile(0);
            pair.tile(5);
        }
        if (state >= 4) {
            pair.clear();
            pair.tile(1);
            pair.tile(2);
            pair.tile(3);
            pair.tile(4);
        }
        if (state >= 5) {
            pair.begin();
            pair.tile(2);
        }
    }

    private static void anyArgumentsInAnyState() {
        due.says("LANGUAGE 7: no call may ever throw by itself, for any arguments in any state");
        for (int state = 0; state < STATES; state++) {
            for (int kind = 0; kind < 9; kind++) {
                for (int a : EDGES) {
                    edgesFor(state, kind, a);
                }
            }
            for (int at = 0; at < 5; at++) {
                cornersIn(state, at);
            }
        }
        for (int width : EDGES) {
            for (int height : EDGES) {
                Pair pair = new Pair(due, "desk " + width + " by " + height, width, height);
                pair.counts();
                pair.begin();
            }
        }
    }

    /** All calls of one kind whose first argument is a, and what is there after them. */
    private static void edgesFor(int state, int kind, int a) {
        Pair pair = new Pair(due, "state " + state, 20, 12);
        bringTo(pair, state);
        for (int b : EDGES) {
            guarded(() -> call(pair, kind, a, b));
        }
        pair.counts();
        pair.pixel(2, 3);
        pair.nearness(19, 11);
    }

    /** Corners of which one argument is at an edge and the others are good. */
    private static void cornersIn(int state, int at) {
        Pair pair = new Pair(due, "corners in state " + state, 20, 12);
        bringTo(pair, state);
        for (int edge : EDGES) {
            int[] c = {1, 2, 3, 4, 5};
            c[at] = edge;
            guarded(() -> pair.corner(c[0], c[1], c[2], c[3], c[4]));
        }
        pair.add(1, 1);
        pair.counts();
    }

    private static void guarded(Runnable call) {
        try {
            call.run();
        } catch (RuntimeException thrown) {
            due.is("a call that threw " + thrown, true, false);
        }
    }

    private static void laterCallsDoNotThrow() {
        due.says("What it is: what later calls answer is free; LANGUAGE 7: no call may ever throw by itself");
        Random random = new Random(5);
        TileDesk desk = new TileDesk(48, 48);
        for (int n = 0; n < 20000; n++) {
            int kind = random.nextInt(40);
            int a = EDGES[random.nextInt(EDGES.length)];
            int b = EDGES[random.nextInt(EDGES.length)];
            int c = EDGES[random.nextInt(EDGES.length)];
            guarded(() -> anyCall(desk, kind, a, b, c));
        }
    }

    private static void anyCall(TileDesk desk, int kind, int a, int b, int c) {
        switch (kind) {
            case 0:
                desk.background(a);
                break;
            case 1:
                desk.begin();
                break;
            case 2:
                desk.pixel(a, b);
                break;
            case 3:
                desk.nearness(a, b);
                break;
            case 4:
                desk.count(a);
                break;
            case 5:
                if (a == b) {
                    desk.clear();
                }
                break;
            case 6:
            case 7:
                desk.tile(a);
                break;
            case 8:
            case 9:
                desk.corner(kind - 8, a, b, 1 + Math.floorMod(c, 1048576), 5);
                break;
            default:
                desk.add(Math.floorMod(a, 16777217), Math.floorMod(b, 257));
                break;
        }
    }
}
