/** Promise 10: count. */
public final class CountTest {
    private static final Due due = new Due();

    public static void main(String[] args) {
        eachWhatTellsItsOwn();
        howManyWhereNoPictureHasBegun();
        howManyAreThereAfterRefusals();
        theMostThatTheyTell();
        anotherWhatTellsNone();
        due.end();
    }

    private static void counts(String when, TileDesk desk, int... want) {
        for (int what = 0; what < 5; what++) {
            due.is(when + ": count(" + what + ")", desk.count(what), want[what]);
        }
    }

    private static void eachWhatTellsItsOwn() {
        due.says("Promise 10: 0: pieces there are, 1: the picture took, 2: tiles done, 3: width, 4: height");
        TileDesk desk = new TileDesk(30, 17);
        Desks.wideText(desk, 1, 0);
        desk.add(1, 1);
        desk.add(2, 2);
        counts("two pieces", desk, 2, 0, 0, 30, 17);
        desk.begin();
        counts("a picture", desk, 2, 2, 0, 30, 17);
        desk.add(3, 3);
        desk.tile(11);
        counts("a third piece and a tile", desk, 3, 2, 1, 30, 17);
        desk.tile(0);
        counts("another tile", desk, 3, 2, 2, 30, 17);
        desk.clear();
        counts("clear", desk, 0, 2, 2, 30, 17);
        desk.begin();
        counts("a picture of nothing", desk, 0, 0, 0, 30, 17);
    }

    private static void howManyWhereNoPictureHasBegun() {
        due.says("Promise 10: 1 and 2 answer how many, also where no picture has begun");
        TileDesk desk = new TileDesk(30, 17);
        counts("new", desk, 0, 0, 0, 30, 17);
        Desks.wideText(desk, 1, 0);
        desk.add(1, 1);
        desk.tile(0);
        counts("a piece and no picture", desk, 1, 0, 0, 30, 17);
        desk.clear();
        counts("no piece and no picture", desk, 0, 0, 0, 30, 17);
    }

    private static void howManyAreThereAfterRefusals() {
        due.says("Promise 10: how many there are (refused ones are not)");
        TileDesk desk = new TileDesk(30, 17);
        desk.add(1, 1);
        Desks.wideText(desk, 1, 0);
        desk.add(-1, 1);
        desk.add(1, 256);
        counts("refused pieces", desk, 0, 0, 0, 30, 17);
        desk.begin();
        desk.tile(11);
        desk.tile(11);
        desk.tile(12);
        desk.tile(-1);
        counts("one tile and refused ones", desk, 0, 0, 1, 30, 17);
    }

    private static void theMostThatTheyTell() {
        due.says("Promise 10: how many, at their most");
        TileDesk desk = new TileDesk(48, 48);
        Desks.wideText(desk, 1, 0);
        for (int n = 0; n < 460; n++) {
            desk.add(n, 255);
        }
        Desks.beginAndDrawAll(desk);
        counts("all tiles of the largest picture", desk, 460, 460, 36, 48, 48);
    }

    private static void anotherWhatTellsNone() {
        due.says("Promise 10: NONE for another what");
        TileDesk desk = Desks.wideDesk();
        int[] wrong = {-1, 5, 6, -2, -5, 256, 260, 65536, Integer.MIN_VALUE, Integer.MIN_VALUE + 4, Integer.MAX_VALUE};
        for (int what : wrong) {
            due.is("new: count(" + what + ")", desk.count(what), TileDesk.NONE);
        }
        desk.add(1, 1);
        Desks.beginAndDrawAll(desk);
        for (int what : wrong) {
            due.is("drawn: count(" + what + ")", desk.count(what), TileDesk.NONE);
        }
    }
}
