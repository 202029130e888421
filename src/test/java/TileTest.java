/** Promise 7: tile, with what the Terms say of tiles. */
public final class TileTest {
    private static final Due due = new Due();

    public static void main(String[] args) {
        eachTileIsDone();
        falseIfThereIsNoPicture();
        falseIfThereIsNoSuchTile();
        falseIfItWasDone();
        aRefusedTileChangesNothing();
        aTileThatWasDoneIsNotDrawnAgain();
        tilesRunRowByRow();
        theLastTilesMayHaveLess();
        tilesAre8By8();
        eachTileIsDoneByItself();
        theOrderOfTilesIsFree();
        due.end();
    }

    private static void eachTileIsDone() {
        due.says("Promise 7: tile k of the picture is done: true");
        TileDesk desk = new TileDesk(48, 48);
        due.is("begin()", desk.begin(), 36);
        for (int k = 0; k < 36; k++) {
            due.is("tile(" + k + ")", desk.tile(k), true);
            due.is("count(2)", desk.count(2), k + 1);
        }
    }

    private static void falseIfThereIsNoPicture() {
        due.says("Promise 7: false if there is no picture");
        TileDesk desk = new TileDesk(16, 16);
        Desks.wideText(desk, 1, 1);
        desk.add(1, 1);
        for (int k : new int[] {0, 3, -1, 4, Integer.MIN_VALUE, Integer.MAX_VALUE}) {
            due.is("tile(" + k + ")", desk.tile(k), false);
        }
        due.is("count(2)", desk.count(2), 0);
        due.is("pixel(0, 0)", desk.pixel(0, 0), TileDesk.NONE);
        desk.begin();
        due.is("tile(0) of the picture that began then", desk.tile(0), true);
    }

    private static void falseIfThereIsNoSuchTile() {
        due.says("Promise 7: false if there is no such tile");
        int[][] sidesAndTiles = {{8, 8, 1}, {9, 8, 2}, {8, 17, 3}, {20, 12, 6}, {48, 48, 36}};
        for (int[] s : sidesAndTiles) {
            TileDesk desk = new TileDesk(s[0], s[1]);
            desk.begin();
            int[] wrong = {-1, s[2], s[2] + 1, 64, 256, -s[2], Integer.MIN_VALUE, Integer.MAX_VALUE};
            for (int k : wrong) {
                due.is("tile(" + k + ") of " + s[2], desk.tile(k), false);
            }
            due.is("count(2) after refused tiles", desk.count(2), 0);
            due.is("the last tile", desk.tile(s[2] - 1), true);
        }
    }

    private static void falseIfItWasDone() {
        due.says("Promise 7: false if it was done");
        TileDesk desk = new TileDesk(16, 16);
        desk.begin();
        for (int k = 3; k >= 0; k--) {
            desk.tile(k);
            due.is("tile(" + k + ") again", desk.tile(k), false);
            due.is("tile(3) again", desk.tile(3), false);
        }
        due.is("count(2)", desk.count(2), 4);
        desk.begin();
        due.is("tile(0) of the next picture", desk.tile(0), true);
    }

    private static void aRefusedTileChangesNothing() {
        due.says("Promise 7: false (and then no tile is done)");
        TileDesk desk = new TileDesk(16, 16);
        desk.begin();
        desk.tile(2);
        desk.tile(2);
        desk.tile(-1);
        desk.tile(4);
        due.is("count(2)", desk.count(2), 1);
        due.is("pixel(0, 0)", desk.pixel(0, 0), TileDesk.NONE);
        due.is("pixel(8, 0)", desk.pixel(8, 0), TileDesk.NONE);
        due.is("pixel(0, 8)", desk.pixel(0, 8), 0);
        due.is("pixel(8, 8)", desk.pixel(8, 8), TileDesk.NONE);
    }

    private static void aTileThatWasDoneIsNotDrawnAgain() {
        due.says("Promise 7: false if it was done (a clear piece is not laid on twice)");
        TileDesk desk = Desks.wideDesk();
        desk.add(Desks.WHITE, 51);
        desk.begin();
        desk.tile(0);
        due.is("pixel(3, 3)", desk.pixel(3, 3), 0x333333);
        desk.tile(0);
        due.is("pixel(3, 3) after tile(0) again", desk.pixel(3, 3), 0x333333);
    }

    private static void tilesRunRowByRow() {
        due.says("Terms: tiles, row by row from 0 on");
        TileDesk desk = new TileDesk(20, 12);
        desk.background(Desks.GREEN);
        int[][] corners = {{0, 0}, {8, 0}, {16, 0}, {0, 8}, {8, 8}, {16, 8}};
        for (int k = 0; k < corners.length; k++) {
            desk.begin();
            desk.tile(k);
            for (int other = 0; other < corners.length; other++) {
                int want = other == k ? Desks.GREEN : TileDesk.NONE;
                due.is("tile " + other + " when " + k + " is done",
                        desk.pixel(corners[other][0], corners[other][1]), want);
            }
        }
    }

    private static TileDesk redPicture(int width, int height) {
        TileDesk desk = new TileDesk(width, height);
        Desks.wideText(desk, 7, Desks.LIT);
        desk.add(Desks.RED, 255);
        Desks.beginAndDrawAll(desk);
        return desk;
    }

    /** All pixels of pictures with every length of a last tile; a desk a row, for the sake of 512 calls. */
    private static void theLastTilesMayHaveLess() {
        due.says("Terms: the last ones may have less");
        for (int width = 8; width <= 48; width++) {
            int height = 56 - width;
            for (int y = 0; y < 50; y++) {
                TileDesk desk = redPicture(width, height);
                for (int x = 0; x < 50; x++) {
                    boolean inside = x < width && y < height;
                    String at = " of " + width + " by " + height + " at " + x + ", " + y;
                    due.is("pixel" + at, desk.pixel(x, y), inside ? Desks.RED : TileDesk.NONE);
                    due.is("nearness" + at, desk.nearness(x, y), inside ? 7 : TileDesk.NONE);
                }
            }
        }
    }

    private static void tilesAre8By8() {
        due.says("Terms: tiles of 8 by 8 pixels");
        for (int k = 0; k < 9; k++) {
            TileDesk desk = new TileDesk(19, 23);
            desk.background(Desks.GREEN);
            due.is("begin()", desk.begin(), 9);
            desk.tile(k);
            for (int y = 0; y < 23; y++) {
                for (int x = 0; x < 19; x++) {
                    boolean inside = x / 8 == k % 3 && y / 8 == k / 3;
                    due.is("pixel(" + x + ", " + y + ") when tile " + k + " is done",
                            desk.pixel(x, y), inside ? Desks.GREEN : TileDesk.NONE);
                }
            }
        }
    }

    private static void eachTileIsDoneByItself() {
        due.says("Terms: each tile is done by itself");
        TileDesk desk = new TileDesk(16, 8);
        Desks.wideText(desk, 50, Desks.LIT);
        desk.add(Desks.GREEN, 102);
        desk.begin();
        desk.tile(0);
        int colour = desk.pixel(7, 0);
        due.is("pixel(7, 0)", colour, 0x006600);
        desk.tile(1);
        due.is("pixel(7, 0) when its neighbour is done", desk.pixel(7, 0), colour);
        due.is("pixel(8, 0)", desk.pixel(8, 0), colour);
    }

    private static void theOrderOfTilesIsFree() {
        due.says("What it is: in any order of tiles");
        TileDesk forth = leaningPieces();
        TileDesk back = leaningPieces();
        int tiles = forth.begin();
        back.begin();
        for (int k = 0; k < tiles; k++) {
            forth.tile(k);
            back.tile(tiles - 1 - k);
        }
        for (int y = 0; y < 11; y++) {
            for (int x = 0; x < 19; x++) {
                due.is("pixel(" + x + ", " + y + ") back", back.pixel(x, y), forth.pixel(x, y));
                due.is("nearness(" + x + ", " + y + ") back", back.nearness(x, y), forth.nearness(x, y));
            }
        }
    }

    private static TileDesk leaningPieces() {
        TileDesk desk = new TileDesk(19, 11);
        desk.background(0x203040);
        desk.corner(0, -20, 10, 900, 60000);
        desk.corner(1, 330, 77, 20, 500);
        desk.corner(2, 60, 390, 400, 30000);
        desk.add(0xF0E0D0, 255);
        desk.corner(0, 300, 340, 30, 65536);
        desk.corner(1, 3, 300, 800, 65536);
        desk.corner(2, 200, -100, 500, 0);
        desk.add(0x11EE77, 90);
        return desk;
    }
}
