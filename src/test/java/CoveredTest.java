/** The Terms on which pixels a piece covers. */
public final class CoveredTest {
    private static final Due due = new Due();

    public static void main(String[] args) {
        aPixelHasItsMiddle();
        aboveZeroIsCovered();
        belowZeroIsNot();
        zeroOnAnEdgeThatGoesUpIsCovered();
        zeroOnAnEdgeThatGoesDownIsNot();
        zeroOnALevelEdgeToTheRightIsCovered();
        zeroOnALevelEdgeToTheLeftIsNot();
        itMustBeSoForEachEdge();
        wholeShapes();
        neighboursShareNoPixelAndLeaveNone();
        theGreatestPieceCovers();
        piecesBesideThePictureDoNotShow();
        due.end();
    }

    private static String shown(int... places) {
        TileDesk desk = new TileDesk(8, 8);
        Desks.text(desk, 1, Desks.LIT, places);
        due.is("add of a shape", desk.add(Desks.WHITE, 255), 0);
        Desks.beginAndDrawAll(desk);
        return Desks.firstTile(desk);
    }

    /** The smallest pieces round a middle and beside it, at each pixel of the largest picture's rim. */
    private static void aPixelHasItsMiddle() {
        due.says("Terms: a pixel i, j has its middle at x = 16 * i + 8, y = 16 * j + 8");
        int[] places = {0, 1, 7, 8, 24, 40, 46, 47};
        for (int i : places) {
            for (int j : places) {
                TileDesk desk = new TileDesk(48, 48);
                int x = 16 * i + 8;
                int y = 16 * j + 8;
                Desks.text(desk, 1, Desks.LIT, x, y, x + 1, y, x, y + 1);
                desk.add(Desks.RED, 255);
                Desks.text(desk, 2, Desks.LIT, x + 1, y, x + 15, y, x + 1, y + 15);
                desk.add(Desks.GREEN, 255);
                Desks.text(desk, 3, Desks.LIT, x, y + 1, x + 1, y + 1, x, y + 15);
                desk.add(Desks.BLUE, 255);
                Desks.beginAndDrawAll(desk);
                due.is("pixel(" + i + ", " + j + ")", desk.pixel(i, j), Desks.RED);
                due.is("the pixel to the left", desk.pixel(i - 1, j), i == 0 ? TileDesk.NONE : 0);
                due.is("the pixel to the right", desk.pixel(i + 1, j), i == 47 ? TileDesk.NONE : 0);
                due.is("the pixel above", desk.pixel(i, j - 1), j == 0 ? TileDesk.NONE : 0);
                due.is("the pixel below", desk.pixel(i, j + 1), j == 47 ? TileDesk.NONE : 0);
            }
        }
    }

    /**
     * Whether pixel 4, 4, whose middle is 72 72, is covered by the piece with the corners a, b, c.
     * E of the edge from a to b is told too, so that the numbers can be trusted. Asked three times:
     * that edge is 0 1, then 1 2, then 2 0.
     */
    private static void at72(boolean want, int e, int... abc) {
        if ((abc[2] - abc[0]) * (72 - abc[1]) - (abc[3] - abc[1]) * (72 - abc[0]) != e) {
            throw new IllegalStateException("a test is wrong on E");
        }
        for (int turn = 0; turn < 3; turn++) {
            TileDesk desk = new TileDesk(8, 8);
            for (int n = 0; n < 3; n++) {
                desk.corner((n + turn) % 3, abc[2 * n], abc[2 * n + 1], 5, Desks.LIT);
            }
            String call = "the piece " + java.util.Arrays.toString(abc) + " turned by " + turn;
            due.is(call + ": add", desk.add(Desks.WHITE, 255), 0);
            Desks.beginAndDrawAll(desk);
            due.is(call + ": pixel", desk.pixel(4, 4), want ? Desks.WHITE : 0);
            due.is(call + ": nearness", desk.nearness(4, 4), want ? 5 : 0);
        }
    }

    private static void aboveZeroIsCovered() {
        due.says("Terms: it is covered if E is above 0: 1 is above");
        at72(true, 1, 67, 74, 74, 71, 132, 212);
        at72(true, 1, 77, 70, 70, 73, 12, -68);
        at72(true, 1, 71, 71, 72, 71, 80, 200);
        at72(true, 1, 73, 73, 72, 73, 64, -56);
        at72(true, 1, 71, 73, 71, 72, 200, 64);
        at72(true, 1, 73, 71, 73, 72, -56, 80);
    }

    private static void belowZeroIsNot() {
        due.says("Terms: it is covered if E is above 0, or 0: -1 is not");
        at72(false, -1, 70, 73, 77, 70, 132, 212);
        at72(false, -1, 74, 71, 67, 74, 12, -68);
        at72(false, -1, 72, 73, 73, 73, 80, 200);
        at72(false, -1, 72, 71, 71, 71, 64, -56);
        at72(false, -1, 73, 72, 73, 71, 200, 64);
        at72(false, -1, 71, 72, 71, 73, -56, 80);
    }

    private static void zeroOnAnEdgeThatGoesUpIsCovered() {
        due.says("Terms: it is covered if E is 0 and Yb < Ya");
        at72(true, 0, 65, 75, 79, 69, 132, 212);
        at72(true, 0, 72, 80, 72, 60, 200, 72);
        at72(true, 0, 80, 80, 60, 60, 200, -50);
        at72(true, 0, -3952, 73, 4096, 71, 72, 4096);
    }

    private static void zeroOnAnEdgeThatGoesDownIsNot() {
        due.says("Terms: it is covered if E is 0 and Yb < Ya: not if Yb > Ya");
        at72(false, 0, 79, 69, 65, 75, 12, -68);
        at72(false, 0, 72, 60, 72, 80, -200, 72);
        at72(false, 0, 60, 60, 80, 80, -50, 200);
        at72(false, 0, 4096, 71, -3952, 73, 72, -4096);
    }

    private static void zeroOnALevelEdgeToTheRightIsCovered() {
        due.says("Terms: it is covered if E is 0 and Yb = Ya and Xb > Xa");
        at72(true, 0, 71, 72, 73, 72, 72, 200);
        at72(true, 0, -4096, 72, 4096, 72, 72, 4096);
    }

    private static void zeroOnALevelEdgeToTheLeftIsNot() {
        due.says("Terms: it is covered if E is 0 and Yb = Ya and Xb > Xa: not if Xb < Xa");
        at72(false, 0, 73, 72, 71, 72, 72, -200);
        at72(false, 0, 4096, 72, -4096, 72, 72, -4096);
    }

    /** 72 72 lies on a corner, so that two edges have E 0 there: both, one or none may be good for it. */
    private static void itMustBeSoForEachEdge() {
        due.says("Terms: covered if for each of the edges 1 2, 2 0, 0 1");
        at72(true, 0, 72, 72, 172, 72, 72, 172);
        at72(true, 0, 72, 72, 172, -28, 172, 100);
        at72(false, 0, 72, 72, 72, -28, 172, -28);
        at72(false, 0, 72, 72, 72, 172, -28, 72);
        at72(false, 0, 72, 72, 72, 172, -28, 172);
        at72(false, 0, 72, 72, -28, 72, 72, -28);
    }

    private static final String UPPER_LEFT =
            "######..\n#####...\n####....\n###.....\n##......\n#.......\n........\n........\n";
    private static final String LOWER_RIGHT =
            "........\n.....#..\n....##..\n...###..\n..####..\n.#####..\n........\n........\n";
    private static final String UPPER_RIGHT =
            "######..\n.#####..\n..####..\n...###..\n....##..\n.....#..\n........\n........\n";
    private static final String LOWER_LEFT =
            "........\n#.......\n##......\n###.....\n####....\n#####...\n........\n........\n";

    /** All edges of these shapes go through the middles of pixels. */
    private static void wholeShapes() {
        due.says("Terms: it is COVERED by a piece, at every pixel of a shape");
        due.is("upper left", shown(8, 8, 104, 8, 8, 104), UPPER_LEFT);
        due.is("upper left turned once", shown(8, 104, 8, 8, 104, 8), UPPER_LEFT);
        due.is("upper left turned twice", shown(104, 8, 8, 104, 8, 8), UPPER_LEFT);
        due.is("upper right", shown(8, 8, 104, 8, 104, 104), UPPER_RIGHT);
        due.is("lower left", shown(8, 8, 104, 104, 8, 104), LOWER_LEFT);
        due.is("lower right", shown(104, 104, 8, 104, 104, 8), LOWER_RIGHT);
        due.is("lower right turned once", shown(104, 8, 104, 104, 8, 104), LOWER_RIGHT);
        due.is("lower right turned twice", shown(8, 104, 104, 8, 104, 104), LOWER_RIGHT);
    }

    /** Several clear pieces round a middle: a pixel covered twice would be brighter. */
    private static void neighboursShareNoPixelAndLeaveNone() {
        due.says("Terms: covered (each pixel by just one of the pieces that meet there)");
        TileDesk desk = new TileDesk(8, 8);
        int[][] rim = {{-40, -40}, {72, -88}, {168, -40}, {200, 72}, {168, 168}, {72, 216}, {-24, 168}, {-56, 72}};
        for (int n = 0; n < rim.length; n++) {
            int[] from = rim[n];
            int[] to = rim[(n + 1) % rim.length];
            Desks.text(desk, 1, Desks.LIT, 72, 72, from[0], from[1], to[0], to[1]);
            due.is("add of fan piece " + n, desk.add(Desks.WHITE, 51), n);
        }
        Desks.beginAndDrawAll(desk);
        for (int y = 0; y < 8; y++) {
            for (int x = 0; x < 8; x++) {
                due.is("fan at " + x + ", " + y, desk.pixel(x, y), 0x333333);
            }
        }
    }

    private static void theGreatestPieceCovers() {
        due.says("Terms: covered, by the greatest piece that can be");
        TileDesk desk = new TileDesk(48, 48);
        Desks.text(desk, 1, Desks.LIT, -4096, -4096, 4096, -4096, 4096, 4096);
        desk.add(Desks.RED, 255);
        Desks.beginAndDrawAll(desk);
        // The long edge goes upward through the middles with x = y: these are covered.
        due.is("greatest piece at 47, 0", desk.pixel(47, 0), Desks.RED);
        due.is("greatest piece at 46, 46", desk.pixel(46, 46), Desks.RED);
        due.is("greatest piece at 45, 46", desk.pixel(45, 46), 0);
        due.is("greatest piece at 0, 47", desk.pixel(0, 47), 0);
    }

    private static void piecesBesideThePictureDoNotShow() {
        due.says("Terms: covered, only where the piece is");
        String nothing = "........\n".repeat(8);
        due.is("left of it", shown(-100, 0, -1, 0, -1, 128), nothing);
        due.is("above it", shown(0, -100, 128, -100, 0, -1), nothing);
        due.is("right of it", shown(128, 0, 4000, 0, 128, 128), nothing);
        due.is("below it", shown(0, 128, 128, 128, 0, 4000), nothing);
        due.is("far off", shown(-4096, -4096, -4095, -4096, -4096, -4095), nothing);
        due.is("between the middles", shown(9, 9, 23, 9, 9, 23), nothing);
        due.is("round one middle", shown(23, 23, 26, 23, 23, 26), "........\n.#......\n" + "........\n".repeat(6));
    }
}
