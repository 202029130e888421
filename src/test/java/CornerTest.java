/** Promise 2: corner, with the ranges that the Terms give a corner. */
public final class CornerTest {
    private static final int MIN = Integer.MIN_VALUE;
    private static final int MAX = Integer.MAX_VALUE;
    private static final Due due = new Due();

    public static void main(String[] args) {
        thereAreThreeCorners();
        thereIsNoOtherCorner();
        xHasEdges();
        yHasEdges();
        rHasEdges();
        lightHasEdges();
        edgesAreKeptAsTheyAre();
        aRefusedCornerChangesNothing();
        eachCornerIsSetByItself();
        theLastWordOnACornerHolds();
        piecesKeepTheCornersTheyWereAddedWith();
        due.end();
    }

    private static void corner(boolean want, int k, int x, int y, int r, int light) {
        String call = "corner(" + k + ", " + x + ", " + y + ", " + r + ", " + light + ")";
        due.is(call, new TileDesk(8, 8).corner(k, x, y, r, light), want);
    }

    private static void thereAreThreeCorners() {
        due.says("Promise 2: corner k of the text, 0 .. 2: true");
        for (int k = 0; k < 3; k++) {
            corner(true, k, 3, -5, 7, 11);
        }
    }

    private static void thereIsNoOtherCorner() {
        due.says("Promise 2: false if there is no such corner");
        for (int k : new int[] {-1, 3, 4, -2, -3, 256, 65536, MIN, MIN + 1, MAX}) {
            corner(false, k, 0, 0, 1, 0);
            corner(false, k, 4097, 4097, 0, -1);
        }
    }

    private static void xHasEdges() {
        due.says("Promise 2: false if it can't be so; Terms: X, -4096 .. 4096");
        for (int k = 0; k < 3; k++) {
            for (int x : new int[] {-4096, -4095, -1, 0, 1, 4095, 4096}) {
                corner(true, k, x, 0, 1, 0);
            }
            for (int x : new int[] {-4097, 4097, -65536, 65536, MIN, MAX}) {
                corner(false, k, x, 0, 1, 0);
            }
        }
    }

    private static void yHasEdges() {
        due.says("Promise 2: false if it can't be so; Terms: Y, -4096 .. 4096");
        for (int k = 0; k < 3; k++) {
            for (int y : new int[] {-4096, -4095, -1, 0, 1, 4095, 4096}) {
                corner(true, k, 0, y, 1, 0);
            }
            for (int y : new int[] {-4097, 4097, -65536, 65536, MIN, MAX}) {
                corner(false, k, 0, y, 1, 0);
            }
        }
    }

    private static void rHasEdges() {
        due.says("Promise 2: false if it can't be so; Terms: r, 1 .. 1048576");
        for (int k = 0; k < 3; k++) {
            for (int r : new int[] {1, 2, 1048575, 1048576}) {
                corner(true, k, 0, 0, r, 0);
            }
            for (int r : new int[] {0, -1, -1048576, 1048577, MIN, MIN + 1, MAX}) {
                corner(false, k, 0, 0, r, 0);
            }
        }
    }

    private static void lightHasEdges() {
        due.says("Promise 2: false if it can't be so; Terms: a LIGHT l, 0 .. 65536");
        for (int k = 0; k < 3; k++) {
            for (int light : new int[] {0, 1, 65535, 65536}) {
                corner(true, k, 0, 0, 1, light);
            }
            for (int light : new int[] {-1, -65536, 65537, MIN, MAX}) {
                corner(false, k, 0, 0, 1, light);
            }
        }
    }

    /** Every piece that has all its numbers at an end of their ranges looks as the document says. */
    private static void edgesAreKeptAsTheyAre() {
        due.says("Promise 2: corner k is at x, y with r and light, at the ends of their ranges");
        for (int ends = 0; ends < 1 << 12; ends++) {
            Pair pair = new Pair(due, "ends " + ends, 8, 8);
            for (int k = 0; k < 3; k++) {
                int bits = ends >> 4 * k;
                int x = (bits & 1) == 0 ? -4096 : 4096;
                int y = (bits & 2) == 0 ? -4096 : 4096;
                int r = (bits & 4) == 0 ? 1 : 1048576;
                int light = (bits & 8) == 0 ? 0 : 65536;
                pair.corner(k, x, y, r, light);
            }
            pair.add(Desks.WHITE, 255);
            pair.begin();
            pair.tile(0);
            for (int at = 0; at < 8; at++) {
                pair.pixel(at, 7 - at);
                pair.nearness(at, at);
            }
        }
    }

    private static void aRefusedCornerChangesNothing() {
        due.says("Promise 2: false if it can't be so (and then it is not)");
        int[][] refused = {
            {-4097, 0, 9, 9}, {4097, 0, 9, 9}, {0, -4097, 9, 9}, {0, 4097, 9, 9},
            {0, 0, 0, 9}, {0, 0, 1048577, 9}, {0, 0, 9, -1}, {0, 0, 9, 65537}
        };
        for (int[] c : refused) {
            TileDesk desk = new TileDesk(8, 8);
            Desks.wideText(desk, 700, Desks.LIT);
            for (int k = -1; k <= 3; k++) {
                due.is("a refused corner", desk.corner(k, c[0], c[1], c[2], c[3]), false);
            }
            due.is("add after refused corners", desk.add(0x123456, 255), 0);
            Desks.beginAndDrawAll(desk);
            due.is("nearness after refused corners", desk.nearness(7, 7), 700);
            due.is("colour after refused corners", desk.pixel(7, 7), 0x123456);
        }
        TileDesk desk = Desks.wideDesk();
        due.is("corner(-1, ..)", desk.corner(-1, 0, 0, 1, 0), false);
        due.is("corner(3, ..)", desk.corner(3, 0, 0, 1, 0), false);
        desk.add(0x123456, 255);
        Desks.beginAndDrawAll(desk);
        due.is("nearness after corners that are none", desk.nearness(7, 7), 100);
    }

    private static void eachCornerIsSetByItself() {
        due.says("Promise 2: corner k of the text is at x, y with r and light");
        // A middle that lies just on corner k has that corner's r and light alone.
        int[][] places = {{8, 8}, {104, 8}, {8, 104}};
        for (int k = 0; k < 3; k++) {
            TileDesk desk = new TileDesk(8, 8);
            for (int c = 0; c < 3; c++) {
                boolean answer = desk.corner((c + k) % 3, places[c][0], places[c][1], 100 + c, 1000 * (c + 1));
                due.is("corner " + c, answer, true);
            }
            due.is("add turned by " + k, desk.add(0xFFFFFF, 255), 0);
            Desks.beginAndDrawAll(desk);
            due.is("nearness at the first corner, turned by " + k, desk.nearness(0, 0), 100);
            due.is("colour at the first corner, turned by " + k, desk.pixel(0, 0), 0x030303);
        }
    }

    private static void theLastWordOnACornerHolds() {
        due.says("Promise 2: corner k is at x, y with r and light (in place of what it was)");
        TileDesk desk = new TileDesk(8, 8);
        Desks.wideText(desk, 10, 0);
        Desks.wideText(desk, 20, Desks.LIT);
        desk.add(0x0A0B0C, 255);
        Desks.beginAndDrawAll(desk);
        due.is("nearness by the last corners", desk.nearness(0, 0), 20);
        due.is("colour by the last corners", desk.pixel(0, 0), 0x0A0B0C);
    }

    private static void piecesKeepTheCornersTheyWereAddedWith() {
        due.says("Promise 2: corner k of the text (not of a piece)");
        TileDesk desk = new TileDesk(8, 8);
        Desks.wideText(desk, 10, Desks.LIT);
        desk.add(Desks.RED, 255);
        Desks.text(desk, 99, 0, 0, 0, 1, 0, 0, 1);
        Desks.beginAndDrawAll(desk);
        due.is("nearness of a piece after other corners", desk.nearness(0, 0), 10);
        due.is("colour of a piece after other corners", desk.pixel(0, 0), Desks.RED);
    }
}
