/** Promise 8: pixel, with what the Terms say of covered pixels, light and cover. */
public final class PixelTest {
    private static final Due due = new Due();

    public static void main(String[] args) {
        noneWhereNoTileIsDoneOrNoPixelIs();
        topAndLeftEdgesAreCovered();
        otherEdgesAreNot();
        turnedCornersCoverTheSame();
        neighboursShareNoPixelAndLeaveNone();
        theGreatestPieceCovers();
        piecesBesideThePictureDoNotShow();
        lightGoesByR();
        numbersAreLitOneByOne();
        theGreatestNumbersFit();
        solidPiecesHide();
        clearPiecesLetThrough();
        clearPiecesDoNotHideWhatComesLater();
        coverHasEdges();
        due.end();
    }

    private static void noneWhereNoTileIsDoneOrNoPixelIs() {
        TileDesk desk = new TileDesk(20, 12);
        due.is("pixel with no picture", desk.pixel(0, 0), TileDesk.NONE);
        desk.background(0x010203);
        desk.begin();
        due.is("pixel with no tile", desk.pixel(0, 0), TileDesk.NONE);
        desk.tile(5);
        due.is("pixel(16, 8)", desk.pixel(16, 8), 0x010203);
        due.is("pixel(19, 11)", desk.pixel(19, 11), 0x010203);
        due.is("pixel(15, 8)", desk.pixel(15, 8), TileDesk.NONE);
        due.is("pixel(16, 7)", desk.pixel(16, 7), TileDesk.NONE);
        Desks.beginAndDrawAll(desk);
        int[][] wrong = {
            {-1, 0}, {0, -1}, {20, 0}, {0, 12}, {20, 11}, {19, 12}, {23, 11}, {-1, 5},
            {Integer.MIN_VALUE, 0}, {Integer.MAX_VALUE, 0}, {0, Integer.MIN_VALUE}, {0, Integer.MAX_VALUE},
            {Integer.MAX_VALUE, Integer.MAX_VALUE}, {Integer.MIN_VALUE, Integer.MIN_VALUE}
        };
        for (int[] w : wrong) {
            due.is("pixel(" + w[0] + ", " + w[1] + ")", desk.pixel(w[0], w[1]), TileDesk.NONE);
        }
    }

    private static String shown(int... places) {
        TileDesk desk = new TileDesk(8, 8);
        Desks.text(desk, 1, Desks.LIT, places);
        due.is("add of a shape", desk.add(Desks.WHITE, 255), 0);
        Desks.beginAndDrawAll(desk);
        return Desks.firstTile(desk);
    }

    private static final String UPPER_LEFT =
            "######..\n#####...\n####....\n###.....\n##......\n#.......\n........\n........\n";
    private static final String LOWER_RIGHT =
            "........\n.....#..\n....##..\n...###..\n..####..\n.#####..\n........\n........\n";
    private static final String UPPER_RIGHT =
            "######..\n.#####..\n..####..\n...###..\n....##..\n.....#..\n........\n........\n";
    private static final String LOWER_LEFT =
            "........\n#.......\n##......\n###.....\n####....\n#####...\n........\n........\n";

    // All edges of these shapes go through the middles of pixels.
    private static void topAndLeftEdgesAreCovered() {
        due.is("upper left", shown(8, 8, 104, 8, 8, 104), UPPER_LEFT);
        due.is("upper right", shown(8, 8, 104, 8, 104, 104), UPPER_RIGHT);
    }

    private static void otherEdgesAreNot() {
        due.is("lower right", shown(104, 104, 8, 104, 104, 8), LOWER_RIGHT);
        due.is("lower left", shown(8, 8, 104, 104, 8, 104), LOWER_LEFT);
    }

    private static void turnedCornersCoverTheSame() {
        due.is("upper left turned once", shown(8, 104, 8, 8, 104, 8), UPPER_LEFT);
        due.is("upper left turned twice", shown(104, 8, 8, 104, 8, 8), UPPER_LEFT);
        due.is("lower right turned once", shown(104, 8, 104, 104, 8, 104), LOWER_RIGHT);
        due.is("lower right turned twice", shown(8, 104, 104, 8, 104, 104), LOWER_RIGHT);
    }

    /** Half of each of several clear pieces round a middle: a pixel covered twice would be brighter. */
    private static void neighboursShareNoPixelAndLeaveNone() {
        TileDesk desk = new TileDesk(8, 8);
        int[][] rim = {{-40, -40}, {72, -88}, {168, -40}, {200, 72}, {168, 168}, {72, 216}, {-24, 168}, {-56, 72}};
        for (int n = 0; n < rim.length; n++) {
            int[] from = rim[n];
            int[] to = rim[(n + 1) % rim.length];
            Desks.text(desk, 1, Desks.LIT, 72, 72, from[0], from[1], to[0], to[1]);
            due.is("add of fan piece " + n, desk.add(Desks.WHITE, 51), n);
        }
        Desks.beginAndDrawAll(desk);
        for (int y = 0; y < 8; y++) {
            for (int x = 0; x < 8; x++) {
                due.is("fan at " + x + ", " + y, desk.pixel(x, y), 0x333333);
            }
        }
    }

    private static void theGreatestPieceCovers() {
        TileDesk desk = new TileDesk(48, 48);
        Desks.text(desk, 1, Desks.LIT, -4096, -4096, 4096, -4096, 4096, 4096);
        desk.add(Desks.RED, 255);
        Desks.beginAndDrawAll(desk);
        // The long edge goes upward through the middles with x = y: these are covered.
        due.is("greatest piece at 47, 0", desk.pixel(47, 0), Desks.RED);
        due.is("greatest piece at 46, 46", desk.pixel(46, 46), Desks.RED);
        due.is("greatest piece at 45, 46", desk.pixel(45, 46), 0);
        due.is("greatest piece at 0, 47", desk.pixel(0, 47), 0);
    }

    private static void piecesBesideThePictureDoNotShow() {
        String nothing = "........\n".repeat(8);
        due.is("left of it", shown(-100, 0, -1, 0, -1, 128), nothing);
        due.is("above it", shown(0, -100, 128, -100, 0, -1), nothing);
        due.is("right of it", shown(128, 0, 4000, 0, 128, 128), nothing);
        due.is("below it", shown(0, 128, 128, 128, 0, 4000), nothing);
        due.is("between the middles", shown(9, 9, 23, 9, 9, 23), nothing);
        due.is("round one middle", shown(23, 23, 26, 23, 23, 26), "........\n.#......\n" + "........\n".repeat(6));
    }

    private static void lightGoesByR() {
        TileDesk desk = new TileDesk(8, 8);
        desk.corner(0, 8, 8, 100, 0);
        desk.corner(1, 104, 8, 700, 65536);
        desk.corner(2, 8, 104, 100, 0);
        desk.add(Desks.WHITE, 255);
        Desks.beginAndDrawAll(desk);
        due.is("light at 0, 0", desk.pixel(0, 0), 0);
        // One sixth of the way: 700 * 65536 / 1200 = 38229.3; 255 * 38229 / 65536 = 148.7.
        due.is("light at 1, 0", desk.pixel(1, 0), 148 * 0x010101);
        // Half of the way: 2100 * 65536 / 2400 = 57344; 255 * 57344 / 65536 = 223.1.
        due.is("light at 3, 0", desk.pixel(3, 0), 223 * 0x010101);
        due.is("light at 0, 3", desk.pixel(0, 3), 0);
    }

    private static void numbersAreLitOneByOne() {
        TileDesk desk = new TileDesk(8, 8);
        Desks.wideText(desk, 1000, 32767);
        desk.add(0xFF8001, 255);
        Desks.beginAndDrawAll(desk);
        // 255 * 32767 / 65536 = 127.49, 128 * 32767 / 65536 = 63.99, 32767 / 65536 = 0.49.
        due.is("lit by almost a half", desk.pixel(5, 5), 0x7F3F00);
        desk.clear();
        Desks.wideText(desk, 1000, 65535);
        desk.add(0xFF8001, 255);
        Desks.beginAndDrawAll(desk);
        due.is("lit by almost all", desk.pixel(5, 5), 0xFE7F00);
    }

    private static void theGreatestNumbersFit() {
        TileDesk desk = new TileDesk(8, 8);
        Desks.text(desk, 1048576, 65536, -4096, -4096, 4096, -4096, -4096, 4096);
        desk.add(Desks.WHITE, 255);
        Desks.beginAndDrawAll(desk);
        due.is("0, 0 of a piece that ends left of it", desk.pixel(0, 0), 0);
        desk.clear();
        Desks.text(desk, 1048576, 65536, -4096, -4096, 4096, -4096, 4096, 4096);
        desk.add(Desks.WHITE, 255);
        Desks.beginAndDrawAll(desk);
        due.is("the most light", desk.pixel(7, 0), Desks.WHITE);
        due.is("the most nearness", desk.nearness(7, 0), 1048576);
    }

    private static int mixed(int background, int[]... piecesOfNearnessTintCover) {
        TileDesk desk = new TileDesk(8, 8);
        desk.background(background);
        for (int[] p : piecesOfNearnessTintCover) {
            Desks.wideText(desk, p[0], Desks.LIT);
            desk.add(p[1], p[2]);
        }
        Desks.beginAndDrawAll(desk);
        return desk.pixel(2, 6);
    }

    private static void solidPiecesHide() {
        int[] nearRed = {50, Desks.RED, 255};
        int[] farBlue = {40, Desks.BLUE, 255};
        due.is("near, then far", mixed(0, nearRed, farBlue), Desks.RED);
        due.is("far, then near", mixed(0, farBlue, nearRed), Desks.RED);
        due.is("as near: the first", mixed(0, nearRed, new int[] {50, Desks.GREEN, 255}), Desks.RED);
        due.is("nearer by 1", mixed(0, nearRed, new int[] {51, Desks.GREEN, 255}), Desks.GREEN);
        due.is("the least nearness hides the background", mixed(Desks.GREEN, new int[] {1, 0, 255}), 0);
    }

    private static void clearPiecesLetThrough() {
        int[] red = {50, Desks.RED, 255};
        // (255 * 155) / 255 = 155 stays of the red, (255 * 100) / 255 = 100 comes of the blue.
        due.is("nearer clear", mixed(0, red, new int[] {51, Desks.BLUE, 100}), 0x9B0064);
        due.is("clear as near", mixed(0, red, new int[] {50, Desks.BLUE, 100}), Desks.RED);
        due.is("clear behind", mixed(0, red, new int[] {49, Desks.BLUE, 100}), Desks.RED);
        // 100 * 127 + 201 * 128 = 38428 = 255 * 150.7: rounded down.
        due.is("rounded down", mixed(0xC9C9C9, new int[] {1, 0x646464, 127}), 0x969696);
        // First 100 of 255, then 100 of 255 over it: 100 * 155 / 255 = 60.8.
        due.is("one clear over another", mixed(0, new int[] {9, Desks.RED, 100}, new int[] {8, Desks.GREEN, 100}),
                0x3C6400);
    }

    private static void clearPiecesDoNotHideWhatComesLater() {
        int[] clear = {90, Desks.GREEN, 200};
        due.is("clear, then a solid one farther off", mixed(0, clear, new int[] {10, Desks.RED, 255}), Desks.RED);
    }

    private static void coverHasEdges() {
        due.is("cover 0", mixed(0x123456, new int[] {5, Desks.WHITE, 0}), 0x123456);
        due.is("cover 1", mixed(0, new int[] {5, Desks.WHITE, 1}), 0x010101);
        due.is("cover 254", mixed(0, new int[] {5, Desks.WHITE, 254}), 0xFEFEFE);
        int[] redBehind = {4, Desks.RED, 255};
        due.is("cover 254 is clear", mixed(0, new int[] {5, Desks.WHITE, 254}, redBehind), Desks.RED);
        due.is("cover 255 is solid", mixed(0, new int[] {5, Desks.WHITE, 255}, redBehind), Desks.WHITE);
    }
}
