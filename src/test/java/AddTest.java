/** Promise 3: add, with the Terms on tint, cover and AREA. */
public final class AddTest {
    private static final int MIN = Integer.MIN_VALUE;
    private static final int MAX = Integer.MAX_VALUE;
    private static final Due due = new Due();

    public static void main(String[] args) {
        numbersRunFromZero();
        noneIfTheAreaIsZero();
        noneIfTheAreaIsBelowZero();
        anAreaAboveZeroIsEnough();
        areasAreWorkedOutInLongs();
        noneIfTheTintIsNone();
        noneIfTheCoverIsNone();
        noneIfThereAre512Pieces();
        asManyAsOneDesksCallsAllow();
        whatIsRefusedIsNotThere();
        theTextStays();
        theTextStaysAfterARefusal();
        laterPiecesAreBehind();
        due.end();
    }

    private static void numbersRunFromZero() {
        due.says("Promise 3: its number, from 0 on");
        TileDesk desk = Desks.wideDesk();
        for (int n = 0; n < 20; n++) {
            due.is("add number " + n, desk.add(n, n), n);
            due.is("count(0) after add " + n, desk.count(0), n + 1);
        }
    }

    private static void addOf(int want, int... places) {
        TileDesk desk = new TileDesk(8, 8);
        Desks.text(desk, 1, 0, places);
        due.is("add of " + java.util.Arrays.toString(places), desk.add(0, 255), want);
        due.is("count(0) after it", desk.count(0), want + 1);
    }

    private static void noneIfTheAreaIsZero() {
        due.says("Promise 3: NONE if their AREA is not above 0: it is 0");
        addOf(TileDesk.NONE, 7, 7, 7, 7, 7, 7);
        addOf(TileDesk.NONE, 0, 0, 0, 0, 50, 60);
        addOf(TileDesk.NONE, 50, 60, 0, 0, 50, 60);
        addOf(TileDesk.NONE, 0, 0, 50, 60, 50, 60);
        addOf(TileDesk.NONE, -10, -10, 0, 0, 10, 10);
        addOf(TileDesk.NONE, -4096, 4096, 4096, -4096, 0, 0);
        addOf(TileDesk.NONE, 3, -4096, 3, 4096, 3, 0);
        addOf(TileDesk.NONE, -4096, 3, 4096, 3, 0, 3);
    }

    private static void noneIfTheAreaIsBelowZero() {
        due.says("Promise 3: NONE if their AREA is not above 0: it is less");
        addOf(TileDesk.NONE, 5, 5, 5, 6, 6, 5);
        // 8192 * 8190 - 8191 * 8191 = -1.
        addOf(TileDesk.NONE, -4096, -4096, 4096, 4095, 4095, 4094);
        addOf(TileDesk.NONE, -4096, -4096, 4096, 4096, 4096, -4096);
        addOf(TileDesk.NONE, -1000, -1000, -1000, 4000, 4000, -1000);
    }

    private static void anAreaAboveZeroIsEnough() {
        due.says("Promise 3: NONE if their AREA is not above 0: 1 is above");
        addOf(0, 5, 5, 6, 5, 5, 6);
        addOf(0, 5, 6, 5, 5, 6, 5);
        addOf(0, 6, 5, 5, 6, 5, 5);
        // The longest and thinnest: 8191 * 8191 - 8192 * 8190 = 1.
        addOf(0, -4096, -4096, 4095, 4094, 4096, 4095);
    }

    private static void areasAreWorkedOutInLongs() {
        due.says("Terms: AREA is (X1 - X0) * (Y2 - Y0) - (X2 - X0) * (Y1 - Y0), at its greatest and least");
        addOf(0, -4096, -4096, 4096, -4096, 4096, 4096);
        addOf(0, 4096, 4096, -4096, 4096, -4096, -4096);
        addOf(0, 4096, -4096, 4096, 4096, -4096, -4096);
        addOf(TileDesk.NONE, 4096, 4096, -4096, -4096, -4096, 4096);
    }

    private static void noneIfTheTintIsNone() {
        due.says("Promise 3: NONE if tint is none; Terms: each number of a colour is 0 .. 255");
        TileDesk desk = Desks.wideDesk();
        int n = 0;
        for (int tint : new int[] {0, 1, 255, 256, 65535, 65536, 0xFF0000, 16777214, 16777215}) {
            due.is("add(" + tint + ", 255)", desk.add(tint, 255), n++);
        }
        for (int tint : new int[] {-1, -2, -16777216, 16777216, 16777217, 1 << 30, MIN, MIN + 1, MAX}) {
            due.is("add(" + tint + ", 255)", desk.add(tint, 255), TileDesk.NONE);
            due.is("add(" + tint + ", 0)", desk.add(tint, 0), TileDesk.NONE);
        }
    }

    private static void noneIfTheCoverIsNone() {
        due.says("Promise 3: NONE if cover is none; Terms: COVER 0 .. 255");
        TileDesk desk = Desks.wideDesk();
        int n = 0;
        for (int cover : new int[] {0, 1, 127, 128, 254, 255}) {
            due.is("add(5, " + cover + ")", desk.add(5, cover), n++);
        }
        for (int cover : new int[] {-1, -255, -256, 256, 257, 511, 512, 65536, MIN, MIN + 1, MAX}) {
            due.is("add(5, " + cover + ")", desk.add(5, cover), TileDesk.NONE);
            due.is("add(0, " + cover + ")", desk.add(0, cover), TileDesk.NONE);
        }
        due.is("add(-1, -1)", desk.add(-1, -1), TileDesk.NONE);
    }

    /** Beyond the 512 calls that are promised, where answers are free: here the limit holds all the same. */
    private static void noneIfThereAre512Pieces() {
        due.says("Promise 3: NONE if there are 512 pieces");
        TileDesk desk = Desks.wideDesk();
        for (int n = 0; n < 512; n++) {
            due.is("add number " + n, desk.add(n, 255), n);
        }
        due.is("add to 512 pieces", desk.add(0, 255), TileDesk.NONE);
        due.is("add to 512 pieces again", desk.add(0, 255), TileDesk.NONE);
        due.is("count(0) of 512 pieces", desk.count(0), 512);
        Desks.beginAndDrawAll(desk);
        due.is("count(1) of 512 pieces", desk.count(1), 512);
        due.is("colour of 512 pieces", desk.pixel(0, 0), 0);
        desk.clear();
        due.is("add after clear of 512 pieces", desk.add(0, 255), 0);
    }

    /** Two corners and 510 pieces are 512 calls: none of these may be refused as one too many. */
    private static void asManyAsOneDesksCallsAllow() {
        due.says("Promise 3: NONE if there are 512 pieces (and not for fewer)");
        TileDesk desk = new TileDesk(8, 8);
        desk.corner(1, 256, 0, 1, 0);
        desk.corner(2, 0, 256, 1, 0);
        for (int n = 0; n < 510; n++) {
            due.is("add number " + n, desk.add(0, 255), n);
        }
    }

    private static void whatIsRefusedIsNotThere() {
        due.says("Promise 3: NONE (and then no piece is there, and no number is used up)");
        TileDesk desk = Desks.wideDesk();
        due.is("the first", desk.add(Desks.GREEN, 255), 0);
        desk.add(-1, 255);
        desk.add(0, 256);
        Desks.text(desk, 5000, Desks.LIT, 0, 0, 0, 50, 50, 0);
        desk.add(0, 255);
        due.is("count(0) after refused adds", desk.count(0), 1);
        Desks.wideText(desk, 50, Desks.LIT);
        due.is("add after refused adds", desk.add(Desks.BLUE, 255), 1);
        Desks.beginAndDrawAll(desk);
        due.is("pixel after refused adds", desk.pixel(1, 1), Desks.GREEN);
        due.is("nearness after refused adds", desk.nearness(1, 1), 100);
    }

    private static void theTextStays() {
        due.says("Promise 3: the text's corners (which stay)");
        TileDesk desk = Desks.wideDesk();
        desk.add(Desks.RED, 255);
        desk.clear();
        due.is("add of the same text", desk.add(Desks.GREEN, 255), 0);
        desk.corner(0, -1000, -1000, 300, Desks.LIT);
        desk.corner(1, 4000, -1000, 300, Desks.LIT);
        due.is("add of a text with one old corner", desk.add(Desks.BLUE, 255), 1);
        Desks.beginAndDrawAll(desk);
        due.is("colour from a text with one old corner", desk.pixel(0, 0), Desks.BLUE);
        // The old corner 2 with r 100 weighs 1008 / 5000 there: 300 - 200 * 0.2016 = 259.68.
        due.is("nearness from a text with one old corner", desk.nearness(0, 0), 259);
    }

    private static void theTextStaysAfterARefusal() {
        due.says("Promise 3: the text's corners (which stay), where add answers NONE");
        TileDesk desk = Desks.wideDesk();
        desk.add(-1, 255);
        desk.add(0, -1);
        due.is("add after refusals", desk.add(0x102030, 255), 0);
        Desks.beginAndDrawAll(desk);
        due.is("colour of the text after refusals", desk.pixel(6, 1), 0x102030);
        due.is("nearness of the text after refusals", desk.nearness(6, 1), 100);
    }

    private static void laterPiecesAreBehind() {
        due.says("Promise 3: a piece behind the others");
        TileDesk desk = Desks.wideDesk();
        desk.add(Desks.RED, 255);
        desk.add(Desks.GREEN, 255);
        desk.add(Desks.BLUE, 100);
        Desks.beginAndDrawAll(desk);
        due.is("of three equally near, the first is seen", desk.pixel(4, 4), Desks.RED);
    }
}
