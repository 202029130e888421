/** What several tests do with a desk. */
final class Desks {
    static final int LIT = 65536;
    static final int RED = 0xFF0000;
    static final int GREEN = 0x00FF00;
    static final int BLUE = 0x0000FF;
    static final int WHITE = 0xFFFFFF;

    private Desks() {
    }

    /** Sets the text's corners to x0, y0, x1, y1, x2, y2, all with the same r and light. */
    static void text(TileDesk desk, int r, int light, int... places) {
        for (int k = 0; k < 3; k++) {
            if (!desk.corner(k, places[2 * k], places[2 * k + 1], r, light)) {
                throw new IllegalStateException("a test set a corner that can't be so");
            }
        }
    }

    /** Sets a text that covers every pixel that a picture can have. */
    static void wideText(TileDesk desk, int r, int light) {
        text(desk, r, light, -1000, -1000, 4000, -1000, -1000, 4000);
    }

    /** A desk of one tile whose text covers every pixel, with r 100 and all the light. */
    static TileDesk wideDesk() {
        TileDesk desk = new TileDesk(8, 8);
        wideText(desk, 100, LIT);
        return desk;
    }

    static int beginAndDrawAll(TileDesk desk) {
        int tiles = desk.begin();
        for (int k = 0; k < tiles; k++) {
            desk.tile(k);
        }
        return tiles;
    }

    /**
     * The colour of a pixel under pieces that are wide and fully lit, each told as its nearness,
     * tint and cover.
     */
    static int mixed(int background, int[]... pieces) {
        return drawn(background, pieces).pixel(2, 6);
    }

    /** The nearness there, of the same. */
    static int nearest(int background, int[]... pieces) {
        return drawn(background, pieces).nearness(2, 6);
    }

    private static TileDesk drawn(int background, int[]... pieces) {
        TileDesk desk = new TileDesk(8, 8);
        desk.background(background);
        for (int[] piece : pieces) {
            wideText(desk, piece[0], LIT);
            desk.add(piece[1], piece[2]);
        }
        beginAndDrawAll(desk);
        return desk;
    }

    /**
     * A drawn desk with one white, solid piece: corner 0 on the middle of pixel 0 0, corner 1 six
     * pixels to its right, corner 2 six below it.
     */
    static TileDesk leaning(int[] rs, int[] lights) {
        TileDesk desk = new TileDesk(8, 8);
        desk.corner(0, 8, 8, rs[0], lights[0]);
        desk.corner(1, 104, 8, rs[1], lights[1]);
        desk.corner(2, 8, 104, rs[2], lights[2]);
        desk.add(WHITE, 255);
        beginAndDrawAll(desk);
        return desk;
    }

    /** The first 8 rows of 8 pixels: '#' where the colour is not the background's 0. */
    static String firstTile(TileDesk desk) {
        StringBuilder rows = new StringBuilder();
        for (int y = 0; y < 8; y++) {
            for (int x = 0; x < 8; x++) {
                rows.append(desk.pixel(x, y) == 0 ? '.' : '#');
            }
            rows.append('\n');
        }
        return rows.toString();
    }
}
