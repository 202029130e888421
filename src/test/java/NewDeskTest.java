/** Promise 1: a new object. */
public final class NewDeskTest {
    private static final Due due = new Due();

    public static void main(String[] args) {
        sidesFrom8To48AreTaken();
        lessIs8();
        moreIs48();
        picturesHaveTheNearestSides();
        noPieces();
        noPicture();
        theBackgroundIsZero();
        theTextsCornersAreAtZero();
        theTextsCornersHaveR1();
        theTextsCornersHaveNoLight();
        desksAreApart();
        desksUsedInTurnAreApart();
        due.end();
    }

    private static void sides(int asked, int want) {
        TileDesk wide = new TileDesk(asked, 33);
        due.is("width asked " + asked, wide.count(3), want);
        due.is("height asked 33", wide.count(4), 33);
        TileDesk high = new TileDesk(33, asked);
        due.is("width asked 33", high.count(3), 33);
        due.is("height asked " + asked, high.count(4), want);
    }

    private static void sidesFrom8To48AreTaken() {
        due.says("Promise 1: so many pixels, 8 .. 48 each way");
        for (int side = 8; side <= 48; side++) {
            sides(side, side);
        }
    }

    private static void lessIs8() {
        due.says("Promise 1: what is less is the nearest of these");
        for (int side : new int[] {7, 6, 1, 0, -1, -8, -48, Integer.MIN_VALUE}) {
            sides(side, 8);
        }
    }

    private static void moreIs48() {
        due.says("Promise 1: what is more is the nearest of these");
        for (int side : new int[] {49, 50, 56, 64, 256, 65536 + 20, Integer.MAX_VALUE}) {
            sides(side, 48);
        }
    }

    private static void picturesHaveTheNearestSides() {
        due.says("Promise 1: pictures of so many pixels, the nearest of these");
        TileDesk desk = new TileDesk(-5, 1000);
        due.is("tiles of 8 by 48", Desks.beginAndDrawAll(desk), 6);
        due.is("pixel(7, 47)", desk.pixel(7, 47), 0);
        due.is("pixel(8, 47)", desk.pixel(8, 47), TileDesk.NONE);
        due.is("pixel(7, 48)", desk.pixel(7, 48), TileDesk.NONE);
    }

    private static void noPieces() {
        due.says("Promise 1: no pieces");
        TileDesk desk = new TileDesk(16, 16);
        due.is("new: count(0)", desk.count(0), 0);
        desk.begin();
        due.is("new and begun: count(1)", desk.count(1), 0);
    }

    private static void noPicture() {
        due.says("Promise 1: no picture");
        TileDesk desk = new TileDesk(16, 16);
        due.is("new: count(1)", desk.count(1), 0);
        due.is("new: count(2)", desk.count(2), 0);
        due.is("new: tile(0)", desk.tile(0), false);
        due.is("new: pixel(0, 0)", desk.pixel(0, 0), TileDesk.NONE);
        due.is("new: nearness(0, 0)", desk.nearness(0, 0), TileDesk.NONE);
    }

    private static void theBackgroundIsZero() {
        due.says("Promise 1: the background is 0");
        TileDesk desk = new TileDesk(8, 8);
        Desks.beginAndDrawAll(desk);
        due.is("new: background at 3, 3", desk.pixel(3, 3), 0);
    }

    private static void theTextsCornersAreAtZero() {
        due.says("Promise 1: the text's corners are 0 0");
        due.is("new: add of corners that are all 0 0", new TileDesk(8, 8).add(Desks.WHITE, 255), TileDesk.NONE);
        for (int k = 0; k < 3; k++) {
            TileDesk desk = new TileDesk(8, 8);
            desk.corner((k + 1) % 3, 1, 0, 1, 0);
            desk.corner((k + 2) % 3, 0, 1, 1, 0);
            due.is("the new corner " + k + " and 1 0 and 0 1", desk.add(0, 255), 0);
            desk.corner((k + 1) % 3, 1, 1, 1, 0);
            desk.corner((k + 2) % 3, -1, -1, 1, 0);
            due.is("the new corner " + k + " between 1 1 and -1 -1", desk.add(0, 255), TileDesk.NONE);
            desk.corner((k + 2) % 3, 2, 2, 1, 0);
            due.is("the new corner " + k + " before 1 1 and 2 2", desk.add(0, 255), TileDesk.NONE);
        }
    }

    /** A white piece on red whose corner k is the new one, 240 / 256 of what weighs at pixel 0 0. */
    private static TileDesk withNewCorner(int k, int r, int light) {
        TileDesk desk = new TileDesk(8, 8);
        desk.corner((k + 1) % 3, 256, 0, r, light);
        desk.corner((k + 2) % 3, 0, 256, r, light);
        due.is("add with the new corner " + k, desk.add(Desks.WHITE, 255), 0);
        desk.background(Desks.RED);
        Desks.beginAndDrawAll(desk);
        return desk;
    }

    private static void theTextsCornersHaveR1() {
        due.says("Promise 1: the text's corners are 0 0 with r 1");
        for (int k = 0; k < 3; k++) {
            // 0.9375 * 1 + 0.0625 * 16 = 1.9375; r 2 would give 2.875.
            due.is("nearness by the new corner " + k, withNewCorner(k, 16, 0).nearness(0, 0), 1);
            // 0.9375 * 1 + 0.0625 * 17 = 2 just.
            due.is("nearness by the new corner " + k, withNewCorner(k, 17, 0).nearness(0, 0), 2);
        }
    }

    private static void theTextsCornersHaveNoLight() {
        due.says("Promise 1: the text's corners are 0 0 with light 0");
        for (int k = 0; k < 3; k++) {
            due.is("colour by the new corner " + k, withNewCorner(k, 1, 0).pixel(0, 0), 0);
            // 0.0625 * 4113 = 257.1; 255 * 257 = 65535. Light 1 would give 258 there, and a colour.
            due.is("colour by the new corner " + k, withNewCorner(k, 1, 4113).pixel(0, 0), 0);
            // 0.0625 * 4128 = 258; 255 * 258 = 65790.
            due.is("colour by the new corner " + k, withNewCorner(k, 1, 4128).pixel(0, 0), 0x010101);
        }
    }

    private static void desksAreApart() {
        due.says("Terms: all memory is the desk's own");
        TileDesk one = new TileDesk(8, 8);
        TileDesk other = new TileDesk(8, 8);
        Desks.wideText(one, 5, Desks.LIT);
        one.add(Desks.RED, 255);
        Desks.beginAndDrawAll(one);
        due.is("another desk: count(0)", other.count(0), 0);
        due.is("another desk: pixel(0, 0)", other.pixel(0, 0), TileDesk.NONE);
        due.is("another desk: add", other.add(Desks.RED, 255), TileDesk.NONE);
    }

    /** Every call on the one is followed by the same kind of call on the other, with other numbers. */
    private static void desksUsedInTurnAreApart() {
        due.says("Terms: all memory is the desk's own, also when two are used in turn");
        Pair one = new Pair(due, "one of two", 20, 12);
        Pair other = new Pair(due, "the other of two", 30, 16);
        one.background(0x102030);
        other.background(0x405060);
        for (int k = 0; k < 3; k++) {
            one.corner(k, k == 1 ? 300 : -20, k == 2 ? 280 : -30, 50 + k, 65536 - k);
            other.corner(k, k == 2 ? 400 : 10, k == 0 ? 250 : 5, 90 - k, 30000 + k);
        }
        one.add(0xF0E0D0, 255);
        other.add(0x0A0B0C, 100);
        one.add(0x112233, 30);
        one.begin();
        other.begin();
        other.clear();
        for (int k = 0; k < 6; k++) {
            one.tile(k);
            other.tile(7 - k);
        }
        one.counts();
        other.counts();
        one.pixel(19, 11);
        other.pixel(29, 15);
        for (int at = 0; at < 12; at++) {
            one.pixel(at, 11 - at);
            other.pixel(at + 10, 15 - at);
            one.nearness(at, at);
            other.nearness(29 - at, at);
        }
    }
}
