/** Promise 8: pixel. What colour it is, CoveredTest, LightTest and OrderTest look at. */
public final class PixelTest {
    private static final int MIN = Integer.MIN_VALUE;
    private static final int MAX = Integer.MAX_VALUE;
    private static final Due due = new Due();

    public static void main(String[] args) {
        theColourOfEachPixel();
        noneWithNoPicture();
        noneIfItsTileIsNotDone();
        noneInThePictureThatBeganSince();
        noneIfThereIsNoSuchPixel();
        noneBesideAShortLastTile();
        askingChangesNothing();
        due.end();
    }

    /** Each pixel has a piece of its own there, with its own tint. */
    private static void theColourOfEachPixel() {
        due.says("Promise 8: the colour of a pixel");
        TileDesk desk = new TileDesk(10, 9);
        for (int n = 0; n < 90; n++) {
            int x = 16 * (n % 10) + 8;
            int y = 16 * (n / 10) + 8;
            Desks.text(desk, 1, Desks.LIT, x - 2, y - 2, x + 4, y - 2, x - 2, y + 4);
            desk.add(70000 * n + n, 255);
        }
        Desks.beginAndDrawAll(desk);
        for (int n = 0; n < 90; n++) {
            due.is("pixel(" + n % 10 + ", " + n / 10 + ")", desk.pixel(n % 10, n / 10), 70000 * n + n);
        }
    }

    private static void noneWithNoPicture() {
        due.says("Promise 8: NONE if its tile is not done: there is no picture");
        TileDesk desk = new TileDesk(20, 12);
        due.is("new: pixel(0, 0)", desk.pixel(0, 0), TileDesk.NONE);
        desk.tile(0);
        due.is("after a refused tile: pixel(0, 0)", desk.pixel(0, 0), TileDesk.NONE);
        due.is("new: pixel(19, 11)", desk.pixel(19, 11), TileDesk.NONE);
        due.is("new: pixel(20, 12)", desk.pixel(20, 12), TileDesk.NONE);
    }

    private static void noneIfItsTileIsNotDone() {
        due.says("Promise 8: NONE if its tile is not done");
        TileDesk desk = new TileDesk(20, 12);
        desk.background(0x010203);
        desk.begin();
        due.is("pixel(16, 8) with no tile", desk.pixel(16, 8), TileDesk.NONE);
        desk.tile(5);
        due.is("pixel(16, 8)", desk.pixel(16, 8), 0x010203);
        due.is("pixel(19, 11)", desk.pixel(19, 11), 0x010203);
        due.is("pixel(15, 8)", desk.pixel(15, 8), TileDesk.NONE);
        due.is("pixel(16, 7)", desk.pixel(16, 7), TileDesk.NONE);
        due.is("pixel(0, 0)", desk.pixel(0, 0), TileDesk.NONE);
    }

    private static void noneInThePictureThatBeganSince() {
        due.says("Promise 8: NONE if its tile is not done, in this picture");
        TileDesk desk = new TileDesk(8, 8);
        Desks.beginAndDrawAll(desk);
        due.is("pixel(0, 0)", desk.pixel(0, 0), 0);
        desk.begin();
        due.is("pixel(0, 0) of the next", desk.pixel(0, 0), TileDesk.NONE);
    }

    private static void noneIfThereIsNoSuchPixel() {
        due.says("Promise 8: NONE if there is none such");
        TileDesk desk = new TileDesk(24, 16);
        Desks.beginAndDrawAll(desk);
        // Beside a row, its neighbours' pixels are next in memory; far off, a product may wrap round.
        int[][] wrong = {
            {-1, 0}, {0, -1}, {-1, -1}, {24, 0}, {0, 16}, {24, 15}, {23, 16}, {24, 16}, {-1, 5}, {-8, 5},
            {-24, 1}, {25, 3}, {48, 2}, {383, 0}, {384, 0}, {5, -8}, {MIN, 0}, {MAX, 0}, {0, MIN}, {0, MAX},
            {MAX, MAX}, {MIN, MIN}, {0, 1 << 29}, {1 << 28, 0}, {0, 178956971}, {5, MIN + 8}, {MIN + 8, 5}
        };
        for (int[] w : wrong) {
            due.is("pixel(" + w[0] + ", " + w[1] + ")", desk.pixel(w[0], w[1]), TileDesk.NONE);
        }
    }

    private static void noneBesideAShortLastTile() {
        due.says("Promise 8: NONE if there is none such, beside a last tile that has less");
        TileDesk desk = new TileDesk(20, 12);
        Desks.beginAndDrawAll(desk);
        due.is("pixel(19, 11)", desk.pixel(19, 11), 0);
        for (int beyond = 0; beyond < 4; beyond++) {
            due.is("pixel(" + (20 + beyond) + ", 5)", desk.pixel(20 + beyond, 5), TileDesk.NONE);
            due.is("pixel(5, " + (12 + beyond) + ")", desk.pixel(5, 12 + beyond), TileDesk.NONE);
            due.is("pixel beyond both", desk.pixel(20 + beyond, 12 + beyond), TileDesk.NONE);
        }
    }

    private static void askingChangesNothing() {
        due.says("Promise 8: the colour of a pixel (each time that it is asked for)");
        TileDesk desk = Desks.wideDesk();
        desk.add(Desks.RED, 100);
        Desks.beginAndDrawAll(desk);
        for (int n = 0; n < 3; n++) {
            due.is("pixel(4, 4)", desk.pixel(4, 4), 0x640000);
            due.is("nearness(4, 4)", desk.nearness(4, 4), 0);
        }
    }
}
