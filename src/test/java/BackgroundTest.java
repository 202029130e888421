/** Promise 5: background. */
public final class BackgroundTest {
    private static final Due due = new Due();

    public static void main(String[] args) {
        coloursAreTaken();
        whatIsNoColourIsRefused();
        aRefusalChangesNothing();
        itIsTakenWhenThePictureBegins();
        clearPiecesLetItThrough();
        due.end();
    }

    private static void coloursAreTaken() {
        due.says("Promise 5: the background is a colour: true; Terms: each number is 0 .. 255");
        TileDesk desk = new TileDesk(8, 8);
        int[] colours = {0, 1, 255, 256, 65535, 65536, 0x123456, 0xFF0000, 16777214, 16777215, 0};
        for (int colour : colours) {
            due.is("background(" + colour + ")", desk.background(colour), true);
            Desks.beginAndDrawAll(desk);
            due.is("pixel on background " + colour, desk.pixel(7, 7), colour);
            due.is("nearness on background " + colour, desk.nearness(7, 7), 0);
        }
    }

    private static final int[] NO_COLOURS = {
        -1, -2, -256, -16777216, 16777216, 16777217, 1 << 30, Integer.MIN_VALUE, Integer.MIN_VALUE + 1, Integer.MAX_VALUE
    };

    private static void whatIsNoColourIsRefused() {
        due.says("Promise 5: false if it is none");
        for (int colour : NO_COLOURS) {
            due.is("background(" + colour + ")", new TileDesk(8, 8).background(colour), false);
        }
    }

    private static void aRefusalChangesNothing() {
        due.says("Promise 5: false if it is none (and then the background is what it was)");
        for (int colour : NO_COLOURS) {
            TileDesk desk = new TileDesk(8, 8);
            desk.background(0xABCDEF);
            desk.background(colour);
            Desks.beginAndDrawAll(desk);
            due.is("pixel after background(" + colour + ")", desk.pixel(0, 0), 0xABCDEF);
        }
    }

    private static void itIsTakenWhenThePictureBegins() {
        due.says("Terms: begin() takes the background as it is then; what comes later is not seen");
        TileDesk desk = new TileDesk(16, 8);
        desk.background(Desks.RED);
        desk.begin();
        desk.tile(0);
        desk.background(Desks.BLUE);
        desk.tile(1);
        due.is("a tile done before the new background", desk.pixel(0, 0), Desks.RED);
        due.is("a tile done after the new background", desk.pixel(8, 0), Desks.RED);
        Desks.beginAndDrawAll(desk);
        due.is("the next picture", desk.pixel(8, 0), Desks.BLUE);
    }

    private static void clearPiecesLetItThrough() {
        due.says("What it is: clear ones let it through");
        // 255 * 51 + 10 * 204 = 15045, 10 * 51 + 100 * 204 = 20910, 255 * 204 = 52020, each by 255.
        due.is("a fifth of a clear piece", Desks.mixed(0x0A64FF, new int[] {1, 0xFF0A00, 51}), 0x3B52CC);
    }
}
