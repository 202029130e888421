/** Promise 9: nearness, with what the Terms say of it at one piece. */
public final class NearnessTest {
    private static final int MIN = Integer.MIN_VALUE;
    private static final int MAX = Integer.MAX_VALUE;
    private static final int[] DARK = {0, 0, 0};
    private static final Due due = new Due();

    public static void main(String[] args) {
        theNearnessAtEachPixel();
        noneWithNoPicture();
        noneIfItsTileIsNotDone();
        noneInThePictureThatBeganSince();
        noneIfThereIsNoSuchPixel();
        noneBesideAShortLastTile();
        itGoesEvenlyFromCornerToCorner();
        itIsTheGreatestWholeNumberNotAbove();
        itsEdges();
        due.end();
    }

    private static void theNearnessAtEachPixel() {
        due.says("Promise 9: the nearness at a pixel");
        TileDesk desk = new TileDesk(9, 10);
        for (int n = 0; n < 90; n += 2) {
            int x = 16 * (n % 9) + 8;
            int y = 16 * (n / 9) + 8;
            Desks.text(desk, n + 1, Desks.LIT, x - 2, y - 2, x + 4, y - 2, x - 2, y + 4);
            desk.add(0, 255);
        }
        Desks.beginAndDrawAll(desk);
        for (int n = 0; n < 90; n++) {
            int want = n % 2 == 0 ? n + 1 : 0;
            due.is("nearness(" + n % 9 + ", " + n / 9 + ")", desk.nearness(n % 9, n / 9), want);
        }
    }

    private static void noneWithNoPicture() {
        due.says("Promise 9: NONE if its tile is not done: there is no picture");
        TileDesk desk = new TileDesk(20, 12);
        due.is("new: nearness(0, 0)", desk.nearness(0, 0), TileDesk.NONE);
        desk.tile(0);
        due.is("after a refused tile: nearness(0, 0)", desk.nearness(0, 0), TileDesk.NONE);
        due.is("new: nearness(19, 11)", desk.nearness(19, 11), TileDesk.NONE);
    }

    private static void noneIfItsTileIsNotDone() {
        due.says("Promise 9: NONE if its tile is not done");
        TileDesk desk = new TileDesk(20, 12);
        desk.begin();
        due.is("nearness(16, 8) with no tile", desk.nearness(16, 8), TileDesk.NONE);
        desk.tile(5);
        due.is("nearness(16, 8)", desk.nearness(16, 8), 0);
        due.is("nearness(19, 11)", desk.nearness(19, 11), 0);
        due.is("nearness(15, 8)", desk.nearness(15, 8), TileDesk.NONE);
        due.is("nearness(16, 7)", desk.nearness(16, 7), TileDesk.NONE);
    }

    private static void noneInThePictureThatBeganSince() {
        due.says("Promise 9: NONE if its tile is not done, in this picture");
        TileDesk desk = new TileDesk(8, 8);
        Desks.beginAndDrawAll(desk);
        due.is("nearness(0, 0)", desk.nearness(0, 0), 0);
        desk.begin();
        due.is("nearness(0, 0) of the next", desk.nearness(0, 0), TileDesk.NONE);
    }

    private static void noneIfThereIsNoSuchPixel() {
        due.says("Promise 9: NONE if there is none such");
        TileDesk desk = new TileDesk(24, 16);
        Desks.beginAndDrawAll(desk);
        int[][] wrong = {
            {-1, 0}, {0, -1}, {-1, -1}, {24, 0}, {0, 16}, {24, 15}, {23, 16}, {24, 16}, {-1, 5}, {-8, 5},
            {-24, 1}, {25, 3}, {48, 2}, {383, 0}, {384, 0}, {5, -8}, {MIN, 0}, {MAX, 0}, {0, MIN}, {0, MAX},
            {MAX, MAX}, {MIN, MIN}, {0, 1 << 29}, {1 << 28, 0}, {0, 178956971}, {5, MIN + 8}, {MIN + 8, 5}
        };
        for (int[] w : wrong) {
            due.is("nearness(" + w[0] + ", " + w[1] + ")", desk.nearness(w[0], w[1]), TileDesk.NONE);
        }
    }

    private static void noneBesideAShortLastTile() {
        due.says("Promise 9: NONE if there is none such, beside a last tile that has less");
        TileDesk desk = new TileDesk(20, 12);
        Desks.beginAndDrawAll(desk);
        due.is("nearness(19, 11)", desk.nearness(19, 11), 0);
        for (int beyond = 0; beyond < 4; beyond++) {
            due.is("nearness(" + (20 + beyond) + ", 5)", desk.nearness(20 + beyond, 5), TileDesk.NONE);
            due.is("nearness(5, " + (12 + beyond) + ")", desk.nearness(5, 12 + beyond), TileDesk.NONE);
        }
    }

    private static void itGoesEvenlyFromCornerToCorner() {
        due.says("Terms: its NEARNESS is DIV(h, AREA)");
        TileDesk desk = Desks.leaning(new int[] {100, 700, 6100}, DARK);
        for (int j = 0; j < 6; j++) {
            for (int i = 0; i + j < 6; i++) {
                due.is("nearness(" + i + ", " + j + ")", desk.nearness(i, j), 100 + 100 * i + 1000 * j);
            }
        }
        due.is("nearness beside the piece", desk.nearness(6, 0), 0);
    }

    private static void itIsTheGreatestWholeNumberNotAbove() {
        due.says("Terms: DIV(a, b): the greatest whole number that is not above a / b, in the nearness");
        TileDesk desk = Desks.leaning(new int[] {100, 101, 99}, DARK);
        for (int i = 0; i < 6; i++) {
            due.is("a little above 100, at " + i + ", 0", desk.nearness(i, 0), 100);
        }
        for (int j = 1; j < 6; j++) {
            due.is("a little below 100, at 0, " + j, desk.nearness(0, j), 99);
        }
    }

    private static void itsEdges() {
        due.says("Terms: the nearness of r 1 and of r 1048576; all is worked out in longs");
        TileDesk desk = new TileDesk(48, 48);
        Desks.text(desk, 1048576, 65536, -4096, -4096, 4096, -4096, 4096, 4096);
        desk.add(Desks.WHITE, 255);
        Desks.beginAndDrawAll(desk);
        due.is("the most", desk.nearness(47, 3), 1048576);
        desk.clear();
        Desks.text(desk, 1, 65536, -4096, -4096, 4096, -4096, 4096, 4096);
        desk.add(Desks.WHITE, 255);
        Desks.beginAndDrawAll(desk);
        due.is("the least of a piece", desk.nearness(47, 3), 1);
        due.is("the background's", desk.nearness(3, 47), 0);
    }
}
