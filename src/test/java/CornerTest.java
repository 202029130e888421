/** Promise 2: corner. */
public final class CornerTest {
    private static final Due due = new Due();

    public static void main(String[] args) {
        edgesAreTaken();
        whatIsBeyondTheEdgesIsRefused();
        aRefusedCornerChangesNothing();
        eachCornerIsSetByItself();
        theLastWordOnACornerHolds();
        piecesKeepTheCornersTheyWereAddedWith();
        due.end();
    }

    private static void edgesAreTaken() {
        TileDesk desk = new TileDesk(8, 8);
        for (int k = 0; k < 3; k++) {
            due.is("corner " + k + " least", desk.corner(k, -4096, -4096, 1, 0), true);
            due.is("corner " + k + " most", desk.corner(k, 4096, 4096, 1048576, 65536), true);
            due.is("corner " + k + " plain", desk.corner(k, 3, -5, 7, 11), true);
        }
    }

    private static void whatIsBeyondTheEdgesIsRefused() {
        TileDesk desk = new TileDesk(8, 8);
        int[][] wrong = {
            {-1, 0, 0, 1, 0}, {3, 0, 0, 1, 0},
            {Integer.MIN_VALUE, 0, 0, 1, 0}, {Integer.MAX_VALUE, 0, 0, 1, 0},
            {0, -4097, 0, 1, 0}, {0, 4097, 0, 1, 0},
            {0, Integer.MIN_VALUE, 0, 1, 0}, {0, Integer.MAX_VALUE, 0, 1, 0},
            {1, 0, -4097, 1, 0}, {1, 0, 4097, 1, 0},
            {1, 0, Integer.MIN_VALUE, 1, 0}, {1, 0, Integer.MAX_VALUE, 1, 0},
            {2, 0, 0, 0, 0}, {2, 0, 0, -1, 0}, {2, 0, 0, 1048577, 0},
            {2, 0, 0, Integer.MIN_VALUE, 0}, {2, 0, 0, Integer.MAX_VALUE, 0},
            {0, 0, 0, 1, -1}, {0, 0, 0, 1, 65537},
            {0, 0, 0, 1, Integer.MIN_VALUE}, {0, 0, 0, 1, Integer.MAX_VALUE}
        };
        for (int[] w : wrong) {
            due.is("corner" + java.util.Arrays.toString(w), desk.corner(w[0], w[1], w[2], w[3], w[4]), false);
        }
    }

    private static void aRefusedCornerChangesNothing() {
        TileDesk desk = new TileDesk(8, 8);
        Desks.wideText(desk, 700, Desks.LIT);
        for (int k = 0; k < 3; k++) {
            desk.corner(k, 4097, 0, 9, 9);
            desk.corner(k, 0, 4097, 9, 9);
            desk.corner(k, 0, 0, 0, 9);
            desk.corner(k, 0, 0, 9, 65537);
        }
        due.is("add after refused corners", desk.add(0x123456, 255), 0);
        Desks.beginAndDrawAll(desk);
        due.is("nearness after refused corners", desk.nearness(7, 7), 700);
        due.is("colour after refused corners", desk.pixel(7, 7), 0x123456);
    }

    private static void eachCornerIsSetByItself() {
        // A middle that lies just on corner k has that corner's r and light alone.
        int[][] places = {{8, 8}, {104, 8}, {8, 104}};
        for (int k = 0; k < 3; k++) {
            TileDesk desk = new TileDesk(8, 8);
            for (int c = 0; c < 3; c++) {
                boolean answer = desk.corner((c + k) % 3, places[c][0], places[c][1], 100 + c, 1000 * (c + 1));
                due.is("corner " + c, answer, true);
            }
            due.is("add turned by " + k, desk.add(0xFFFFFF, 255), 0);
            Desks.beginAndDrawAll(desk);
            due.is("nearness at the first corner, turned by " + k, desk.nearness(0, 0), 100);
            due.is("colour at the first corner, turned by " + k, desk.pixel(0, 0), 0x030303);
        }
    }

    private static void theLastWordOnACornerHolds() {
        TileDesk desk = new TileDesk(8, 8);
        Desks.wideText(desk, 10, 0);
        Desks.wideText(desk, 20, Desks.LIT);
        desk.add(0x0A0B0C, 255);
        Desks.beginAndDrawAll(desk);
        due.is("nearness by the last corners", desk.nearness(0, 0), 20);
        due.is("colour by the last corners", desk.pixel(0, 0), 0x0A0B0C);
    }

    private static void piecesKeepTheCornersTheyWereAddedWith() {
        TileDesk desk = new TileDesk(8, 8);
        Desks.wideText(desk, 10, Desks.LIT);
        desk.add(Desks.RED, 255);
        Desks.text(desk, 99, 0, 0, 0, 1, 0, 0, 1);
        Desks.beginAndDrawAll(desk);
        due.is("nearness of a piece after other corners", desk.nearness(0, 0), 10);
        due.is("colour of a piece after other corners", desk.pixel(0, 0), Desks.RED);
    }
}
