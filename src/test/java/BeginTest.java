/** Promise 6: begin. */
public final class BeginTest {
    private static final Due due = new Due();

    public static void main(String[] args) {
        itTellsHowManyTiles();
        noTileIsDoneAtFirst();
        whatComesLaterIsNotSeen();
        itTakesThePlaceOfAnother();
        piecesStayForTheNext();
        due.end();
    }

    private static void itTellsHowManyTiles() {
        int[][] sidesAndTiles = {
            {8, 8, 1}, {9, 8, 2}, {8, 9, 2}, {16, 16, 4}, {17, 16, 6}, {16, 17, 6},
            {20, 12, 6}, {47, 41, 36}, {48, 48, 36}, {8, 48, 6}, {0, 0, 1}, {99, 99, 36}
        };
        for (int[] s : sidesAndTiles) {
            due.is("begin() of " + s[0] + " by " + s[1], new TileDesk(s[0], s[1]).begin(), s[2]);
        }
    }

    private static void noTileIsDoneAtFirst() {
        TileDesk desk = new TileDesk(16, 16);
        desk.begin();
        due.is("count(2) after begin", desk.count(2), 0);
        due.is("pixel after begin", desk.pixel(0, 0), TileDesk.NONE);
        due.is("nearness after begin", desk.nearness(15, 15), TileDesk.NONE);
    }

    private static void whatComesLaterIsNotSeen() {
        TileDesk desk = new TileDesk(8, 8);
        Desks.wideText(desk, 10, Desks.LIT);
        desk.add(Desks.RED, 255);
        desk.begin();
        Desks.wideText(desk, 20, Desks.LIT);
        desk.add(Desks.GREEN, 255);
        due.is("count(0) with a later piece", desk.count(0), 2);
        due.is("count(1) with a later piece", desk.count(1), 1);
        desk.tile(0);
        due.is("pixel with a later piece", desk.pixel(0, 0), Desks.RED);
        due.is("nearness with a later piece", desk.nearness(0, 0), 10);
    }

    private static void itTakesThePlaceOfAnother() {
        TileDesk desk = new TileDesk(16, 8);
        Desks.wideText(desk, 10, Desks.LIT);
        desk.add(Desks.RED, 255);
        Desks.beginAndDrawAll(desk);
        due.is("count(2) of the first picture", desk.count(2), 2);
        desk.clear();
        due.is("begin() again", desk.begin(), 2);
        due.is("count(1) of the second picture", desk.count(1), 0);
        due.is("count(2) of the second picture", desk.count(2), 0);
        due.is("pixel of the second picture", desk.pixel(0, 0), TileDesk.NONE);
        due.is("nearness of the second picture", desk.nearness(0, 0), TileDesk.NONE);
        due.is("tile(1) of the second picture", desk.tile(1), true);
        due.is("pixel in tile 1 of the second picture", desk.pixel(8, 0), 0);
        due.is("nearness in tile 1 of the second picture", desk.nearness(8, 0), 0);
        due.is("pixel in tile 0 of the second picture", desk.pixel(0, 0), TileDesk.NONE);
    }

    private static void piecesStayForTheNext() {
        TileDesk desk = new TileDesk(8, 8);
        Desks.wideText(desk, 10, Desks.LIT);
        desk.add(Desks.RED, 255);
        desk.begin();
        due.is("count(0) after begin", desk.count(0), 1);
        due.is("add after begin", desk.add(Desks.BLUE, 255), 1);
        desk.begin();
        due.is("count(1) after the second begin", desk.count(1), 2);
    }
}
