/** Promise 7: tile. */
public final class TileTest {
    private static final Due due = new Due();

    public static void main(String[] args) {
        aTileIsDoneOnce();
        whatIsNoTileIsRefused();
        tilesRunRowByRow();
        theLastTilesMayHaveLess();
        theOrderOfTilesIsFree();
        due.end();
    }

    private static void aTileIsDoneOnce() {
        TileDesk desk = new TileDesk(16, 16);
        due.is("tile(0) with no picture", desk.tile(0), false);
        desk.begin();
        for (int k = 0; k < 4; k++) {
            due.is("tile(" + k + ")", desk.tile(k), true);
            due.is("tile(" + k + ") again", desk.tile(k), false);
            due.is("count(2)", desk.count(2), k + 1);
        }
        desk.begin();
        due.is("tile(0) of the next picture", desk.tile(0), true);
    }

    private static void whatIsNoTileIsRefused() {
        TileDesk desk = new TileDesk(16, 16);
        int[] wrong = {-1, 4, 5, 36, Integer.MIN_VALUE, Integer.MAX_VALUE};
        for (int k : wrong) {
            due.is("tile(" + k + ") with no picture", desk.tile(k), false);
        }
        desk.begin();
        for (int k : wrong) {
            due.is("tile(" + k + ")", desk.tile(k), false);
        }
        due.is("count(2) after refused tiles", desk.count(2), 0);
    }

    private static void tilesRunRowByRow() {
        TileDesk desk = new TileDesk(20, 12);
        int[][] corners = {{0, 0}, {8, 0}, {16, 0}, {0, 8}, {8, 8}, {16, 8}};
        for (int k = 0; k < corners.length; k++) {
            desk.begin();
            desk.tile(k);
            for (int other = 0; other < corners.length; other++) {
                int want = other == k ? 0 : TileDesk.NONE;
                due.is("tile " + other + " when " + k + " is done",
                        desk.pixel(corners[other][0], corners[other][1]), want);
            }
        }
    }

    private static void theLastTilesMayHaveLess() {
        TileDesk desk = new TileDesk(20, 12);
        Desks.wideText(desk, 7, Desks.LIT);
        desk.add(Desks.RED, 255);
        due.is("begin()", Desks.beginAndDrawAll(desk), 6);
        for (int y = 0; y < 12; y++) {
            for (int x = 0; x < 20; x++) {
                due.is("pixel(" + x + ", " + y + ")", desk.pixel(x, y), Desks.RED);
                due.is("nearness(" + x + ", " + y + ")", desk.nearness(x, y), 7);
            }
        }
    }

    private static void theOrderOfTilesIsFree() {
        TileDesk forth = leaningPieces();
        TileDesk back = leaningPieces();
        int tiles = forth.begin();
        back.begin();
        for (int k = 0; k < tiles; k++) {
            forth.tile(k);
            back.tile(tiles - 1 - k);
        }
        for (int y = 0; y < 21; y++) {
            for (int x = 0; x < 19; x++) {
                due.is("pixel(" + x + ", " + y + ") back", back.pixel(x, y), forth.pixel(x, y));
                due.is("nearness(" + x + ", " + y + ") back", back.nearness(x, y), forth.nearness(x, y));
            }
        }
    }

    private static TileDesk leaningPieces() {
        TileDesk desk = new TileDesk(19, 21);
        desk.corner(0, -20, 10, 900, 60000);
        desk.corner(1, 330, 77, 20, 500);
        desk.corner(2, 60, 390, 400, 30000);
        desk.add(0xF0E0D0, 255);
        desk.corner(0, 300, 340, 30, 65536);
        desk.corner(1, 3, 300, 800, 65536);
        desk.corner(2, 200, -100, 500, 0);
        desk.add(0x11EE77, 90);
        return desk;
    }
}
