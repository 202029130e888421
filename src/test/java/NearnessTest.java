/** Promise 9: nearness. */
public final class NearnessTest {
    private static final Due due = new Due();

    public static void main(String[] args) {
        noneWhereNoTileIsDoneOrNoPixelIs();
        itGoesEvenlyFromCornerToCorner();
        itIsRoundedDown();
        clearPiecesLeaveIt();
        theNearestSolidPieceCounts();
        itsEdges();
        due.end();
    }

    private static void noneWhereNoTileIsDoneOrNoPixelIs() {
        TileDesk desk = new TileDesk(20, 12);
        due.is("nearness with no picture", desk.nearness(0, 0), TileDesk.NONE);
        desk.begin();
        due.is("nearness with no tile", desk.nearness(0, 0), TileDesk.NONE);
        desk.tile(5);
        due.is("nearness(16, 8)", desk.nearness(16, 8), 0);
        due.is("nearness(19, 11)", desk.nearness(19, 11), 0);
        due.is("nearness(15, 8)", desk.nearness(15, 8), TileDesk.NONE);
        due.is("nearness(16, 7)", desk.nearness(16, 7), TileDesk.NONE);
        Desks.beginAndDrawAll(desk);
        int[][] wrong = {
            {-1, 0}, {0, -1}, {20, 0}, {0, 12}, {20, 11}, {19, 12}, {23, 11}, {-1, 5},
            {Integer.MIN_VALUE, 0}, {Integer.MAX_VALUE, 0}, {0, Integer.MIN_VALUE}, {0, Integer.MAX_VALUE}
        };
        for (int[] w : wrong) {
            due.is("nearness(" + w[0] + ", " + w[1] + ")", desk.nearness(w[0], w[1]), TileDesk.NONE);
        }
    }

    private static TileDesk leaning(int r0, int r1, int r2) {
        TileDesk desk = new TileDesk(8, 8);
        desk.corner(0, 8, 8, r0, 0);
        desk.corner(1, 104, 8, r1, 0);
        desk.corner(2, 8, 104, r2, 0);
        desk.add(Desks.WHITE, 255);
        Desks.beginAndDrawAll(desk);
        return desk;
    }

    private static void itGoesEvenlyFromCornerToCorner() {
        TileDesk desk = leaning(100, 700, 6100);
        for (int j = 0; j < 6; j++) {
            for (int i = 0; i + j < 6; i++) {
                due.is("nearness(" + i + ", " + j + ")", desk.nearness(i, j), 100 + 100 * i + 1000 * j);
            }
        }
        due.is("nearness beside the piece", desk.nearness(6, 0), 0);
    }

    private static void itIsRoundedDown() {
        TileDesk desk = leaning(100, 101, 99);
        for (int i = 0; i < 6; i++) {
            due.is("a little above 100, at " + i + ", 0", desk.nearness(i, 0), 100);
        }
        for (int j = 1; j < 6; j++) {
            due.is("a little below 100, at 0, " + j, desk.nearness(0, j), 99);
        }
    }

    private static void clearPiecesLeaveIt() {
        TileDesk desk = new TileDesk(8, 8);
        Desks.wideText(desk, 90, Desks.LIT);
        desk.add(Desks.RED, 254);
        desk.begin();
        desk.tile(0);
        due.is("nearness under a clear piece", desk.nearness(0, 0), 0);
        Desks.wideText(desk, 30, Desks.LIT);
        desk.add(Desks.RED, 255);
        Desks.wideText(desk, 60, Desks.LIT);
        desk.add(Desks.RED, 0);
        desk.begin();
        desk.tile(0);
        due.is("nearness of a solid piece between clear ones", desk.nearness(0, 0), 30);
    }

    private static void theNearestSolidPieceCounts() {
        TileDesk desk = new TileDesk(8, 8);
        int[] rs = {5, 3, 9, 9, 8, 1};
        for (int r : rs) {
            Desks.wideText(desk, r, Desks.LIT);
            desk.add(r, 255);
        }
        Desks.beginAndDrawAll(desk);
        due.is("the nearest of six", desk.nearness(1, 1), 9);
        due.is("the colour of the nearest of six", desk.pixel(1, 1), 9);
    }

    private static void itsEdges() {
        TileDesk desk = new TileDesk(48, 48);
        Desks.text(desk, 1048576, 65536, -4096, -4096, 4096, -4096, 4096, 4096);
        desk.add(Desks.WHITE, 255);
        Desks.beginAndDrawAll(desk);
        due.is("the most", desk.nearness(47, 3), 1048576);
        desk.clear();
        Desks.text(desk, 1, 65536, -4096, -4096, 4096, -4096, 4096, 4096);
        desk.add(Desks.WHITE, 255);
        Desks.beginAndDrawAll(desk);
        due.is("the least of a piece", desk.nearness(47, 3), 1);
        due.is("the background's", desk.nearness(3, 47), 0);
    }
}
