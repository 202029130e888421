/** The Terms on what is at a pixel when pieces lie over each other: nearer, as near, solid, clear. */
public final class OrderTest {
    private static final int[] RED_50 = {50, Desks.RED, 255};
    private static final Due due = new Due();

    public static void main(String[] args) {
        theBackgroundAndNearnessZeroAtFirst();
        theLeastNearnessIsGreaterThanThat();
        aGreaterNearnessIsSeen();
        asGreatIsNot();
        lessIsNot();
        wholeNumbersAreCompared();
        solidOnesGiveTheirColourAndNearness();
        cover255IsSolid();
        lessThan255IsClear();
        clearOnesAreMixedIn();
        mixedNumbersAreTheGreatestNotAbove();
        clearOnesWithCoverZero();
        clearOnesLeaveTheNearness();
        clearOnesBehindOrAsNearAreNotSeen();
        itGoesPieceByPieceInOrder();
        theNearestOfManyIsSeen();
        due.end();
    }

    private static int[] piece(int nearness, int tint, int cover) {
        return new int[] {nearness, tint, cover};
    }

    private static void theBackgroundAndNearnessZeroAtFirst() {
        due.says("Terms: a pixel has the BACKGROUND and nearness 0 at first");
        due.is("pixel under no pieces", Desks.mixed(0x123456), 0x123456);
        due.is("nearness under no pieces", Desks.nearest(0x123456), 0);
    }

    private static void theLeastNearnessIsGreaterThanThat() {
        due.says("Terms: a greater nearness than is there: 1 is greater than the background's 0");
        due.is("solid", Desks.mixed(Desks.GREEN, piece(1, Desks.RED, 255)), Desks.RED);
        due.is("solid: nearness", Desks.nearest(Desks.GREEN, piece(1, Desks.RED, 255)), 1);
        due.is("clear", Desks.mixed(Desks.GREEN, piece(1, Desks.RED, 51)), 0x33CC00);
    }

    private static void aGreaterNearnessIsSeen() {
        due.says("Terms: where one covers it with a greater nearness than is there: greater by 1");
        due.is("solid", Desks.mixed(0, RED_50, piece(51, Desks.GREEN, 255)), Desks.GREEN);
        due.is("solid: nearness", Desks.nearest(0, RED_50, piece(51, Desks.GREEN, 255)), 51);
        due.is("clear", Desks.mixed(0, RED_50, piece(51, Desks.BLUE, 100)), 0x9B0064);
        int[] most = piece(1048576, Desks.GREEN, 255);
        due.is("the greatest", Desks.mixed(0, piece(1048575, Desks.RED, 255), most), Desks.GREEN);
    }

    private static void asGreatIsNot() {
        due.says("Terms: with a greater nearness than is there: not if it is as great");
        due.is("solid", Desks.mixed(0, RED_50, piece(50, Desks.GREEN, 255)), Desks.RED);
        int[] most = piece(1048576, Desks.RED, 255);
        due.is("the greatest", Desks.mixed(0, most, piece(1048576, Desks.GREEN, 255)), Desks.RED);
        due.is("the least", Desks.mixed(0, piece(1, Desks.RED, 255), piece(1, Desks.GREEN, 255)), Desks.RED);
    }

    private static void lessIsNot() {
        due.says("Terms: with a greater nearness than is there: not if it is less");
        due.is("solid", Desks.mixed(0, RED_50, piece(49, Desks.GREEN, 255)), Desks.RED);
        due.is("solid: nearness", Desks.nearest(0, RED_50, piece(49, Desks.GREEN, 255)), 50);
    }

    private static void wholeNumbersAreCompared() {
        due.says("Terms: nearness is DIV(h, AREA), also where two are compared");
        TileDesk desk = new TileDesk(8, 8);
        leaningPiece(desk, 100, 101, Desks.RED);
        leaningPiece(desk, 101, 100, Desks.GREEN);
        Desks.beginAndDrawAll(desk);
        due.is("100 and 101", desk.pixel(0, 0), Desks.GREEN);
        due.is("100.17 and 100.83, both of which are 100", desk.pixel(1, 0), Desks.RED);
        due.is("100.83 and 100.17, both of which are 100", desk.pixel(5, 0), Desks.RED);
    }

    private static void leaningPiece(TileDesk desk, int leftR, int rightR, int tint) {
        desk.corner(0, 8, 8, leftR, Desks.LIT);
        desk.corner(1, 104, 8, rightR, Desks.LIT);
        desk.corner(2, 8, 104, leftR, Desks.LIT);
        desk.add(tint, 255);
    }

    private static void solidOnesGiveTheirColourAndNearness() {
        due.says("Terms: solid: its colour and nearness are there");
        int[] farBlue = piece(40, Desks.BLUE, 255);
        due.is("near, then far", Desks.mixed(0, RED_50, farBlue), Desks.RED);
        due.is("near, then far: nearness", Desks.nearest(0, RED_50, farBlue), 50);
        due.is("far, then near", Desks.mixed(0, farBlue, RED_50), Desks.RED);
        due.is("far, then near: nearness", Desks.nearest(0, farBlue, RED_50), 50);
    }

    private static void cover255IsSolid() {
        due.says("Terms: COVER 255 is solid");
        int[] redBehind = piece(4, Desks.RED, 255);
        due.is("pixel", Desks.mixed(0, piece(5, Desks.WHITE, 255), redBehind), Desks.WHITE);
        due.is("nearness", Desks.nearest(0, piece(5, Desks.WHITE, 255), redBehind), 5);
    }

    private static void lessThan255IsClear() {
        due.says("Terms: COVER less than 255 is clear");
        int[] redBehind = piece(4, Desks.RED, 255);
        for (int cover : new int[] {0, 1, 128, 253, 254}) {
            due.is("pixel under " + cover, Desks.mixed(0, piece(5, Desks.WHITE, cover), redBehind), Desks.RED);
            due.is("nearness under " + cover, Desks.nearest(0, piece(5, Desks.WHITE, cover), redBehind), 4);
        }
    }

    private static void clearOnesAreMixedIn() {
        due.says("Terms: clear with COVER c: each number is DIV(new * c + old * (255 - c), 255)");
        // (255 * 155) / 255 = 155 stays of the red, (255 * 100) / 255 = 100 comes of the blue.
        due.is("blue on red", Desks.mixed(0, RED_50, piece(51, Desks.BLUE, 100)), 0x9B0064);
        for (int cover = 0; cover < 255; cover++) {
            due.is("white on black, cover " + cover, Desks.mixed(0, piece(1, Desks.WHITE, cover)), cover * 0x010101);
            due.is("black on white, cover " + cover, Desks.mixed(Desks.WHITE, piece(1, 0, cover)),
                    (255 - cover) * 0x010101);
            due.is("white on white, cover " + cover, Desks.mixed(Desks.WHITE, piece(1, Desks.WHITE, cover)),
                    Desks.WHITE);
        }
    }

    private static void mixedNumbersAreTheGreatestNotAbove() {
        due.says("Terms: DIV(a, b): the greatest whole number that is not above a / b, in a mixed colour");
        // 100 * 127 + 201 * 128 = 38428 = 255 * 150.7.
        due.is("150.7", Desks.mixed(0xC9C9C9, piece(1, 0x646464, 127)), 0x969696);
        // 1 * 254 = 255 * 0.996, and 1 * 1 + 255 * 254 = 255 * 254.004.
        due.is("0.996", Desks.mixed(0, piece(1, 0x010101, 254)), 0);
        due.is("254.004", Desks.mixed(Desks.WHITE, piece(1, 0x010101, 1)), 0xFEFEFE);
    }

    private static void clearOnesWithCoverZero() {
        due.says("Terms: clear with COVER 0: each number is DIV(old * 255, 255)");
        due.is("pixel", Desks.mixed(0x123456, piece(5, Desks.WHITE, 0)), 0x123456);
        due.is("nearness", Desks.nearest(0x123456, piece(5, Desks.WHITE, 0)), 0);
    }

    private static void clearOnesLeaveTheNearness() {
        due.says("Terms: clear: the nearness stays");
        due.is("on the background", Desks.nearest(0, piece(90, Desks.RED, 254)), 0);
        due.is("on a solid one", Desks.nearest(0, RED_50, piece(60, Desks.RED, 254)), 50);
        int[] clear = piece(90, Desks.GREEN, 200);
        due.is("a solid one farther off comes later", Desks.mixed(0, clear, piece(10, Desks.RED, 255)), Desks.RED);
        due.is("and its nearness", Desks.nearest(0, clear, piece(10, Desks.RED, 255)), 10);
    }

    private static void clearOnesBehindOrAsNearAreNotSeen() {
        due.says("Terms: where one covers it with a greater nearness than is there, of a clear one");
        due.is("as near", Desks.mixed(0, RED_50, piece(50, Desks.BLUE, 100)), Desks.RED);
        due.is("behind", Desks.mixed(0, RED_50, piece(49, Desks.BLUE, 100)), Desks.RED);
    }

    private static void itGoesPieceByPieceInOrder() {
        due.says("Terms: piece by piece in order");
        int[] red = piece(9, Desks.RED, 100);
        int[] green = piece(8, Desks.GREEN, 100);
        // First 100 of 255, then 100 of 255 over it: 100 * 155 / 255 = 60.8.
        due.is("green over red", Desks.mixed(0, red, green), 0x3C6400);
        due.is("red over green", Desks.mixed(0, green, red), 0x643C00);
        due.is("clear, then solid", Desks.mixed(0, red, RED_50), Desks.RED);
    }

    private static void theNearestOfManyIsSeen() {
        due.says("What it is: nearer ones hide what is behind them");
        int[][] six = new int[6][];
        int[] rs = {5, 3, 9, 9, 8, 1};
        for (int n = 0; n < 6; n++) {
            six[n] = piece(rs[n], 10 * rs[n] + n, 255);
        }
        due.is("pixel", Desks.mixed(0, six), 92);
        due.is("nearness", Desks.nearest(0, six), 9);
    }
}
