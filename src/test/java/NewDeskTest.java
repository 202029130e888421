/** Promise 1: a new object. */
public final class NewDeskTest {
    private static final Due due = new Due();

    public static void main(String[] args) {
        sidesAreBroughtToTheNearest();
        nothingIsThereAtFirst();
        theBackgroundIsZeroAtFirst();
        theTextsCornersAreAtZeroWithR1AndNoLight();
        desksAreApart();
        due.end();
    }

    private static void sidesAreBroughtToTheNearest() {
        int[][] askedAndDue = {
            {8, 8}, {48, 48}, {9, 9}, {47, 47}, {20, 20}, {7, 8}, {49, 48}, {0, 8}, {-1, 8},
            {Integer.MIN_VALUE, 8}, {Integer.MAX_VALUE, 48}
        };
        for (int[] pair : askedAndDue) {
            TileDesk wide = new TileDesk(pair[0], 33);
            due.is("width asked " + pair[0], wide.count(3), pair[1]);
            due.is("height asked 33", wide.count(4), 33);
            TileDesk high = new TileDesk(33, pair[0]);
            due.is("width asked 33", high.count(3), 33);
            due.is("height asked " + pair[0], high.count(4), pair[1]);
        }
    }

    private static void nothingIsThereAtFirst() {
        TileDesk desk = new TileDesk(16, 16);
        due.is("new: count(0)", desk.count(0), 0);
        due.is("new: count(1)", desk.count(1), 0);
        due.is("new: count(2)", desk.count(2), 0);
        due.is("new: tile(0)", desk.tile(0), false);
        due.is("new: pixel(0, 0)", desk.pixel(0, 0), TileDesk.NONE);
        due.is("new: nearness(0, 0)", desk.nearness(0, 0), TileDesk.NONE);
    }

    private static void theBackgroundIsZeroAtFirst() {
        TileDesk desk = new TileDesk(8, 8);
        Desks.beginAndDrawAll(desk);
        due.is("new: background at 3, 3", desk.pixel(3, 3), 0);
    }

    private static void theTextsCornersAreAtZeroWithR1AndNoLight() {
        due.is("new: add of corners that are all 0 0", new TileDesk(8, 8).add(Desks.WHITE, 255), TileDesk.NONE);
        for (int k = 0; k < 3; k++) {
            TileDesk desk = new TileDesk(8, 8);
            desk.corner((k + 1) % 3, 256, 0, 2, 0);
            desk.corner((k + 2) % 3, 0, 256, 2, 0);
            due.is("add with the new corner " + k, desk.add(Desks.WHITE, 255), 0);
            desk.background(Desks.RED);
            Desks.beginAndDrawAll(desk);
            // The new corner weighs 240 / 256 there: 0.9375 * 1 + 0.0625 * 2 = 1.0625, and 2 if its r were 2.
            due.is("nearness by the new corner " + k, desk.nearness(0, 0), 1);
            due.is("light by the new corner " + k, desk.pixel(0, 0), 0);
        }
    }

    private static void desksAreApart() {
        TileDesk one = new TileDesk(8, 8);
        TileDesk other = new TileDesk(8, 8);
        Desks.wideText(one, 5, Desks.LIT);
        one.add(Desks.RED, 255);
        Desks.beginAndDrawAll(one);
        due.is("another desk: count(0)", other.count(0), 0);
        due.is("another desk: pixel(0, 0)", other.pixel(0, 0), TileDesk.NONE);
        due.is("another desk: add", other.add(Desks.RED, 255), TileDesk.NONE);
    }
}
