/** Promise 4: clear. */
public final class ClearTest {
    private static final Due due = new Due();

    public static void main(String[] args) {
        thereAreNoPieces();
        numbersRunFromZeroAgain();
        thePictureKeepsWhatItTook();
        tilesDoneBeforeStay();
        newPiecesInTheOldPlacesAreNotSeen();
        otherThingsStay();
        clearOfNothingIsFine();
        due.end();
    }

    private static TileDesk redDesk() {
        TileDesk desk = new TileDesk(16, 8);
        Desks.wideText(desk, 100, Desks.LIT);
        desk.add(Desks.RED, 255);
        return desk;
    }

    private static void thereAreNoPieces() {
        due.says("Promise 4: there are no pieces");
        TileDesk desk = redDesk();
        desk.clear();
        due.is("count(0) after clear", desk.count(0), 0);
        Desks.beginAndDrawAll(desk);
        due.is("count(1) after clear and begin", desk.count(1), 0);
        due.is("pixel after clear and begin", desk.pixel(0, 0), 0);
        due.is("nearness after clear and begin", desk.nearness(0, 0), 0);
    }

    private static void numbersRunFromZeroAgain() {
        due.says("Promise 4: there are no pieces (the next one is number 0)");
        TileDesk desk = redDesk();
        desk.add(Desks.GREEN, 255);
        desk.clear();
        due.is("the first add after clear", desk.add(1, 1), 0);
        due.is("the second add after clear", desk.add(1, 1), 1);
    }

    private static void thePictureKeepsWhatItTook() {
        due.says("Promise 4: a picture that began has those that it took");
        TileDesk desk = redDesk();
        desk.begin();
        desk.clear();
        due.is("count(1) after clear", desk.count(1), 1);
        due.is("tile(1) after clear", desk.tile(1), true);
        due.is("a tile that is done after clear", desk.pixel(8, 0), Desks.RED);
        due.is("nearness in a tile that is done after clear", desk.nearness(8, 0), 100);
        desk.clear();
        due.is("count(1) after a second clear", desk.count(1), 1);
        due.is("count(2) after a second clear", desk.count(2), 1);
    }

    private static void tilesDoneBeforeStay() {
        due.says("Promise 4: a picture that began has those that it took, in tiles done before");
        TileDesk desk = redDesk();
        desk.begin();
        desk.tile(0);
        desk.clear();
        due.is("pixel of a tile that was done before clear", desk.pixel(0, 0), Desks.RED);
        due.is("nearness of a tile that was done before clear", desk.nearness(0, 0), 100);
        due.is("tile(0) after clear", desk.tile(0), false);
        due.is("count(2) after clear", desk.count(2), 1);
    }

    private static void newPiecesInTheOldPlacesAreNotSeen() {
        due.says("Promise 4: a picture that began has those that it took, also when others have their numbers");
        TileDesk desk = redDesk();
        desk.begin();
        desk.clear();
        Desks.wideText(desk, 900, 30000);
        desk.add(Desks.BLUE, 40);
        desk.add(Desks.GREEN, 255);
        due.is("count(0) after clear and add", desk.count(0), 2);
        due.is("count(1) after clear and add", desk.count(1), 1);
        desk.tile(0);
        due.is("pixel after clear and add", desk.pixel(0, 0), Desks.RED);
        due.is("nearness after clear and add", desk.nearness(0, 0), 100);
    }

    private static void otherThingsStay() {
        due.says("Promise 4: there are no pieces (and nothing else is changed)");
        TileDesk desk = redDesk();
        desk.background(Desks.GREEN);
        desk.clear();
        due.is("the text after clear", desk.add(Desks.BLUE, 0), 0);
        Desks.beginAndDrawAll(desk);
        due.is("the background after clear", desk.pixel(0, 0), Desks.GREEN);
        due.is("the width after clear", desk.count(3), 16);
        due.is("the height after clear", desk.count(4), 8);
    }

    private static void clearOfNothingIsFine() {
        due.says("Promise 4: there are no pieces (where there were none)");
        TileDesk desk = new TileDesk(8, 8);
        desk.clear();
        desk.clear();
        due.is("count(0) after clear of nothing", desk.count(0), 0);
        due.is("tile(0) after clear of nothing", desk.tile(0), false);
        due.is("begin() after clear of nothing", desk.begin(), 1);
    }
}
