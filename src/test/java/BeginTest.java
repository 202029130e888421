/** Promise 6: begin. */
public final class BeginTest {
    private static final Due due = new Due();

    public static void main(String[] args) {
        itTellsHowManyTiles();
        aPictureOfNothingBegins();
        noTileIsDoneAtFirst();
        laterPiecesAreNotSeen();
        laterCornersAreNotSeen();
        theOtherOnesTilesAreGone();
        theOtherOnesPiecesAreGone();
        theOtherOnesBackgroundIsGone();
        aPictureWithNoTileDoneIsReplacedToo();
        piecesStayForTheNext();
        due.end();
    }

    private static void itTellsHowManyTiles() {
        due.says("Promise 6: how many tiles it has; Terms: the last ones may have less");
        for (int width = 8; width <= 48; width++) {
            for (int height = 8; height <= 48; height++) {
                int across = width % 8 == 0 ? width / 8 : width / 8 + 1;
                int down = height % 8 == 0 ? height / 8 : height / 8 + 1;
                due.is("begin() of " + width + " by " + height, new TileDesk(width, height).begin(), across * down);
            }
        }
        due.is("begin() of the least", new TileDesk(0, 0).begin(), 1);
        due.is("begin() of the most", new TileDesk(99, 99).begin(), 36);
    }

    private static void aPictureOfNothingBegins() {
        due.says("Promise 6: a picture begins, where there are no pieces");
        TileDesk desk = new TileDesk(16, 8);
        due.is("begin()", desk.begin(), 2);
        due.is("tile(0)", desk.tile(0), true);
        due.is("pixel(0, 0)", desk.pixel(0, 0), 0);
        due.is("nearness(0, 0)", desk.nearness(0, 0), 0);
    }

    private static void noTileIsDoneAtFirst() {
        due.says("Promise 6: a picture begins (none of its tiles is done)");
        TileDesk desk = new TileDesk(16, 16);
        desk.begin();
        due.is("count(2) after begin", desk.count(2), 0);
        due.is("pixel after begin", desk.pixel(0, 0), TileDesk.NONE);
        due.is("nearness after begin", desk.nearness(15, 15), TileDesk.NONE);
    }

    private static void laterPiecesAreNotSeen() {
        due.says("Terms: begin() takes the pieces as they are then; what comes later is not seen");
        TileDesk desk = new TileDesk(8, 8);
        Desks.wideText(desk, 10, Desks.LIT);
        desk.add(Desks.RED, 255);
        desk.begin();
        Desks.wideText(desk, 20, Desks.LIT);
        desk.add(Desks.GREEN, 255);
        due.is("count(0) with a later piece", desk.count(0), 2);
        due.is("count(1) with a later piece", desk.count(1), 1);
        desk.tile(0);
        due.is("pixel with a later piece", desk.pixel(0, 0), Desks.RED);
        due.is("nearness with a later piece", desk.nearness(0, 0), 10);
    }

    private static void laterCornersAreNotSeen() {
        due.says("Terms: begin() takes the pieces as they are then; later corners are not seen");
        TileDesk desk = new TileDesk(8, 8);
        Desks.wideText(desk, 10, Desks.LIT);
        desk.add(Desks.RED, 255);
        desk.begin();
        Desks.text(desk, 77, 0, 0, 0, 16, 0, 0, 16);
        desk.tile(0);
        due.is("pixel with later corners", desk.pixel(7, 7), Desks.RED);
        due.is("nearness with later corners", desk.nearness(7, 7), 10);
    }

    private static TileDesk redPicture() {
        TileDesk desk = new TileDesk(16, 8);
        Desks.wideText(desk, 10, Desks.LIT);
        desk.add(Desks.RED, 255);
        Desks.beginAndDrawAll(desk);
        return desk;
    }

    private static void theOtherOnesTilesAreGone() {
        due.says("Promise 6: in place of another one, whose tiles were done");
        TileDesk desk = redPicture();
        due.is("count(2) of the first picture", desk.count(2), 2);
        due.is("begin() again", desk.begin(), 2);
        due.is("count(2) of the second picture", desk.count(2), 0);
        due.is("pixel of the second picture", desk.pixel(0, 0), TileDesk.NONE);
        due.is("nearness of the second picture", desk.nearness(15, 7), TileDesk.NONE);
        due.is("tile(1) of the second picture", desk.tile(1), true);
        due.is("pixel in tile 0 of the second picture", desk.pixel(0, 0), TileDesk.NONE);
        due.is("count(2) with one tile", desk.count(2), 1);
    }

    private static void theOtherOnesPiecesAreGone() {
        due.says("Promise 6: in place of another one, which had pieces");
        TileDesk desk = redPicture();
        desk.clear();
        desk.begin();
        due.is("count(1) of the second picture", desk.count(1), 0);
        desk.tile(1);
        due.is("pixel in tile 1 of the second picture", desk.pixel(8, 0), 0);
        due.is("nearness in tile 1 of the second picture", desk.nearness(8, 0), 0);
    }

    private static void theOtherOnesBackgroundIsGone() {
        due.says("Promise 6: in place of another one, which had a background");
        TileDesk desk = new TileDesk(8, 8);
        desk.background(Desks.GREEN);
        Desks.beginAndDrawAll(desk);
        desk.background(Desks.BLUE);
        due.is("pixel before the second picture", desk.pixel(0, 0), Desks.GREEN);
        Desks.beginAndDrawAll(desk);
        due.is("pixel of the second picture", desk.pixel(0, 0), Desks.BLUE);
    }

    private static void aPictureWithNoTileDoneIsReplacedToo() {
        due.says("Promise 6: in place of another one, of which no tile was done");
        TileDesk desk = new TileDesk(8, 8);
        desk.background(Desks.GREEN);
        desk.begin();
        desk.background(Desks.BLUE);
        due.is("begin() again", desk.begin(), 1);
        due.is("tile(0)", desk.tile(0), true);
        due.is("pixel of the second picture", desk.pixel(0, 0), Desks.BLUE);
    }

    private static void piecesStayForTheNext() {
        due.says("Promise 6: a picture begins (the pieces are there as before)");
        TileDesk desk = new TileDesk(8, 8);
        Desks.wideText(desk, 10, Desks.LIT);
        desk.add(Desks.RED, 255);
        desk.begin();
        due.is("count(0) after begin", desk.count(0), 1);
        due.is("add after begin", desk.add(Desks.BLUE, 255), 1);
        desk.begin();
        due.is("count(1) after the second begin", desk.count(1), 2);
    }
}
