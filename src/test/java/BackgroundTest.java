/** Promise 5: background. */
public final class BackgroundTest {
    private static final Due due = new Due();

    public static void main(String[] args) {
        coloursAreTaken();
        whatIsNoColourIsRefusedAndChangesNothing();
        itIsTakenWhenThePictureBegins();
        clearPiecesLetItThrough();
        due.end();
    }

    private static void coloursAreTaken() {
        TileDesk desk = new TileDesk(8, 8);
        int[] colours = {0, 1, 255, 256, 0x123456, 16777214, 16777215, 0};
        for (int colour : colours) {
            due.is("background(" + colour + ")", desk.background(colour), true);
            Desks.beginAndDrawAll(desk);
            due.is("pixel on background " + colour, desk.pixel(7, 7), colour);
            due.is("nearness on background " + colour, desk.nearness(7, 7), 0);
        }
    }

    private static void whatIsNoColourIsRefusedAndChangesNothing() {
        TileDesk desk = new TileDesk(8, 8);
        desk.background(0xABCDEF);
        int[] wrong = {-1, 16777216, Integer.MIN_VALUE, Integer.MAX_VALUE};
        for (int colour : wrong) {
            due.is("background(" + colour + ")", desk.background(colour), false);
        }
        Desks.beginAndDrawAll(desk);
        due.is("pixel after refused backgrounds", desk.pixel(0, 0), 0xABCDEF);
    }

    private static void itIsTakenWhenThePictureBegins() {
        TileDesk desk = new TileDesk(16, 8);
        desk.background(Desks.RED);
        desk.begin();
        desk.tile(0);
        desk.background(Desks.BLUE);
        desk.tile(1);
        due.is("a tile done before the new background", desk.pixel(0, 0), Desks.RED);
        due.is("a tile done after the new background", desk.pixel(8, 0), Desks.RED);
        Desks.beginAndDrawAll(desk);
        due.is("the next picture", desk.pixel(8, 0), Desks.BLUE);
    }

    private static void clearPiecesLetItThrough() {
        TileDesk desk = new TileDesk(8, 8);
        Desks.wideText(desk, 1, Desks.LIT);
        desk.background(0x0A64FF);
        desk.add(0xFF0A00, 51);
        Desks.beginAndDrawAll(desk);
        // 255 * 51 + 10 * 204 = 15045, 10 * 51 + 100 * 204 = 20910, 255 * 204 = 52020, each by 255.
        due.is("a fifth of a clear piece", desk.pixel(0, 0), 0x3B52CC);
    }
}
