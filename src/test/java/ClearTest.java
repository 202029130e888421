/** Promise 4: clear. */
public final class ClearTest {
    private static final Due due = new Due();

    public static void main(String[] args) {
        thereAreNoPieces();
        aPictureKeepsWhatItTook();
        otherThingsStay();
        clearOfNothingIsFine();
        due.end();
    }

    private static TileDesk redDesk() {
        TileDesk desk = new TileDesk(16, 8);
        Desks.wideText(desk, 100, Desks.LIT);
        desk.add(Desks.RED, 255);
        return desk;
    }

    private static void thereAreNoPieces() {
        TileDesk desk = redDesk();
        desk.clear();
        due.is("count(0) after clear", desk.count(0), 0);
        Desks.beginAndDrawAll(desk);
        due.is("count(1) after clear and begin", desk.count(1), 0);
        due.is("pixel after clear and begin", desk.pixel(0, 0), 0);
        due.is("nearness after clear and begin", desk.nearness(0, 0), 0);
    }

    private static void aPictureKeepsWhatItTook() {
        TileDesk desk = redDesk();
        desk.begin();
        desk.tile(0);
        desk.clear();
        desk.add(Desks.BLUE, 255);
        due.is("count(0) after clear and add", desk.count(0), 1);
        due.is("count(1) after clear and add", desk.count(1), 1);
        due.is("a tile that was done before clear", desk.pixel(0, 0), Desks.RED);
        due.is("tile(1) after clear", desk.tile(1), true);
        due.is("a tile that is done after clear", desk.pixel(8, 0), Desks.RED);
        due.is("nearness in a tile that is done after clear", desk.nearness(8, 0), 100);
        desk.clear();
        due.is("count(1) after a second clear", desk.count(1), 1);
        due.is("count(2) after a second clear", desk.count(2), 2);
    }

    private static void otherThingsStay() {
        TileDesk desk = redDesk();
        desk.background(Desks.GREEN);
        desk.clear();
        due.is("the text after clear", desk.add(Desks.BLUE, 0), 0);
        Desks.beginAndDrawAll(desk);
        due.is("the background after clear", desk.pixel(0, 0), Desks.GREEN);
        due.is("the width after clear", desk.count(3), 16);
    }

    private static void clearOfNothingIsFine() {
        TileDesk desk = new TileDesk(8, 8);
        desk.clear();
        desk.clear();
        due.is("count(0) after clear of nothing", desk.count(0), 0);
        due.is("tile(0) after clear of nothing", desk.tile(0), false);
    }
}
