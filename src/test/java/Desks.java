/** What several tests do with a desk. */
final class Desks {
    static final int LIT = 65536;
    static final int RED = 0xFF0000;
    static final int GREEN = 0x00FF00;
    static final int BLUE = 0x0000FF;
    static final int WHITE = 0xFFFFFF;

    private Desks() {
    }

    /** Sets the text's corners to x0, y0, x1, y1, x2, y2, all with the same r and light. */
    static void text(TileDesk desk, int r, int light, int... places) {
        for (int k = 0; k < 3; k++) {
            if (!desk.corner(k, places[2 * k], places[2 * k + 1], r, light)) {
                throw new IllegalStateException("a test set a corner that can't be so");
            }
        }
    }

    /** Sets a text that covers every pixel that a picture can have. */
    static void wideText(TileDesk desk, int r, int light) {
        text(desk, r, light, -1000, -1000, 4000, -1000, -1000, 4000);
    }

    static int beginAndDrawAll(TileDesk desk) {
        int tiles = desk.begin();
        for (int k = 0; k < tiles; k++) {
            desk.tile(k);
        }
        return tiles;
    }

    /** The first 8 rows of 8 pixels: '#' where the colour is not the background's 0. */
    static String firstTile(TileDesk desk) {
        StringBuilder rows = new StringBuilder();
        for (int y = 0; y < 8; y++) {
            for (int x = 0; x < 8; x++) {
                rows.append(desk.pixel(x, y) == 0 ? '.' : '#');
            }
            rows.append('\n');
        }
        return rows.toString();
    }
}
