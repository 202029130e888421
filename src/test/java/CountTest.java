/** Promise 10: count. */
public final class CountTest {
    private static final Due due = new Due();

    public static void main(String[] args) {
        eachWhatTellsItsOwn();
        anotherWhatTellsNone();
        due.end();
    }

    private static void counts(String when, TileDesk desk, int... want) {
        for (int what = 0; what < 5; what++) {
            due.is(when + ": count(" + what + ")", desk.count(what), want[what]);
        }
    }

    private static void eachWhatTellsItsOwn() {
        TileDesk desk = new TileDesk(30, 17);
        counts("new", desk, 0, 0, 0, 30, 17);
        Desks.wideText(desk, 1, 0);
        desk.add(1, 1);
        desk.add(2, 2);
        counts("two pieces", desk, 2, 0, 0, 30, 17);
        desk.begin();
        counts("a picture", desk, 2, 2, 0, 30, 17);
        desk.add(3, 3);
        desk.tile(11);
        counts("a third piece and a tile", desk, 3, 2, 1, 30, 17);
        desk.tile(11);
        desk.tile(12);
        desk.tile(0);
        counts("another tile", desk, 3, 2, 2, 30, 17);
        desk.clear();
        counts("clear", desk, 0, 2, 2, 30, 17);
        desk.begin();
        counts("a picture of nothing", desk, 0, 0, 0, 30, 17);
    }

    private static void anotherWhatTellsNone() {
        TileDesk desk = new TileDesk(8, 8);
        int[] wrong = {-1, 5, 6, Integer.MIN_VALUE, Integer.MAX_VALUE};
        for (int what : wrong) {
            due.is("count(" + what + ")", desk.count(what), TileDesk.NONE);
        }
    }
}
