/** Promise 3: add. */
public final class AddTest {
    private static final Due due = new Due();

    public static void main(String[] args) {
        numbersRunFromZero();
        tintsAndCoversHaveEdges();
        theAreaMustBeAboveZero();
        whatIsRefusedIsNotThere();
        theTextStays();
        laterPiecesAreBehind();
        asManyAsOneDesksCallsAllow();
        notMoreThan512();
        due.end();
    }

    private static TileDesk wideDesk() {
        TileDesk desk = new TileDesk(8, 8);
        Desks.wideText(desk, 100, Desks.LIT);
        return desk;
    }

    private static void numbersRunFromZero() {
        TileDesk desk = wideDesk();
        for (int n = 0; n < 20; n++) {
            due.is("add number " + n, desk.add(n, n), n);
            due.is("count(0) after add " + n, desk.count(0), n + 1);
        }
        desk.clear();
        due.is("add after clear", desk.add(1, 1), 0);
    }

    private static void tintsAndCoversHaveEdges() {
        TileDesk desk = wideDesk();
        due.is("add(0, 0)", desk.add(0, 0), 0);
        due.is("add(16777215, 255)", desk.add(16777215, 255), 1);
        int[][] wrong = {
            {-1, 0}, {16777216, 0}, {Integer.MIN_VALUE, 255}, {Integer.MAX_VALUE, 255},
            {0, -1}, {0, 256}, {5, Integer.MIN_VALUE}, {5, Integer.MAX_VALUE}, {-1, -1}
        };
        for (int[] w : wrong) {
            due.is("add(" + w[0] + ", " + w[1] + ")", desk.add(w[0], w[1]), TileDesk.NONE);
        }
    }

    private static void theAreaMustBeAboveZero() {
        TileDesk desk = new TileDesk(8, 8);
        Desks.text(desk, 1, 0, 5, 5, 6, 5, 5, 6);
        due.is("add with area 1", desk.add(0, 255), 0);
        Desks.text(desk, 1, 0, 5, 5, 5, 6, 6, 5);
        due.is("add with area -1", desk.add(0, 255), TileDesk.NONE);
        Desks.text(desk, 1, 0, -10, -10, 0, 0, 10, 10);
        due.is("add with area 0, a line", desk.add(0, 255), TileDesk.NONE);
        Desks.text(desk, 1, 0, 7, 7, 7, 7, 7, 7);
        due.is("add with area 0, a point", desk.add(0, 255), TileDesk.NONE);
        Desks.text(desk, 1, 0, -4096, -4096, 4096, -4096, 4096, 4096);
        due.is("add with the greatest area", desk.add(0, 255), 1);
        Desks.text(desk, 1, 0, -4096, -4096, 4096, 4096, 4096, -4096);
        due.is("add with the least area", desk.add(0, 255), TileDesk.NONE);
    }

    private static void whatIsRefusedIsNotThere() {
        TileDesk desk = wideDesk();
        desk.add(-1, 255);
        desk.add(0, 256);
        due.is("count(0) after refused adds", desk.count(0), 0);
        due.is("add after refused adds", desk.add(Desks.BLUE, 255), 0);
    }

    private static void theTextStays() {
        TileDesk desk = wideDesk();
        desk.add(Desks.RED, 255);
        desk.clear();
        due.is("add of the same text", desk.add(Desks.GREEN, 255), 0);
        desk.corner(0, -1000, -1000, 300, Desks.LIT);
        desk.corner(1, 4000, -1000, 300, Desks.LIT);
        due.is("add of a text with one old corner", desk.add(Desks.BLUE, 255), 1);
        Desks.beginAndDrawAll(desk);
        due.is("colour from a text with one old corner", desk.pixel(0, 0), Desks.BLUE);
        // The old corner 2 with r 100 weighs 1008 / 5000 there: 300 - 200 * 0.2016 = 259.68.
        due.is("nearness from a text with one old corner", desk.nearness(0, 0), 259);
    }

    private static void laterPiecesAreBehind() {
        TileDesk desk = wideDesk();
        desk.add(Desks.RED, 255);
        desk.add(Desks.GREEN, 255);
        Desks.beginAndDrawAll(desk);
        due.is("of two equally near, the first is seen", desk.pixel(4, 4), Desks.RED);
    }

    private static void asManyAsOneDesksCallsAllow() {
        TileDesk desk = new TileDesk(8, 8);
        desk.corner(1, 256, 0, 1, 0);
        desk.corner(2, 0, 256, 1, 0);
        for (int n = 0; n < 510; n++) {
            due.is("add number " + n, desk.add(0, 255), n);
        }
    }

    /** Beyond the 512 calls that are promised, where answers are free: here the limit holds all the same. */
    private static void notMoreThan512() {
        TileDesk desk = wideDesk();
        for (int n = 0; n < 512; n++) {
            due.is("add number " + n, desk.add(n, 255), n);
        }
        due.is("add to 512 pieces", desk.add(0, 255), TileDesk.NONE);
        due.is("count(0) of 512 pieces", desk.count(0), 512);
        Desks.beginAndDrawAll(desk);
        due.is("count(1) of 512 pieces", desk.count(1), 512);
        due.is("colour of 512 pieces", desk.pixel(0, 0), 0);
        desk.clear();
        due.is("add after clear of 512 pieces", desk.add(0, 255), 0);
    }
}
