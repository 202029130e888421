/** A desk and the Reference, called together: what the one answers is due by the other. */
final class Pair {
    private final Due due;
    private final String name;
    private final TileDesk desk;
    private final Reference reference;
    private int calls = 0;

    Pair(Due due, String name, int width, int height) {
        this.due = due;
        this.name = name;
        desk = new TileDesk(width, height);
        reference = new Reference(width, height);
    }

    int calls() {
        return calls;
    }

    private String at(String call, int... arguments) {
        calls++;
        return name + ", call " + calls + ": " + call + java.util.Arrays.toString(arguments);
    }

    void corner(int k, int x, int y, int r, int light) {
        String at = at("corner", k, x, y, r, light);
        due.is(at, desk.corner(k, x, y, r, light), reference.corner(k, x, y, r, light));
    }

    void add(int tint, int cover) {
        due.is(at("add", tint, cover), desk.add(tint, cover), reference.add(tint, cover));
    }

    void clear() {
        at("clear");
        desk.clear();
        reference.clear();
    }

    void background(int colour) {
        due.is(at("background", colour), desk.background(colour), reference.background(colour));
    }

    int begin() {
        int tiles = reference.begin();
        due.is(at("begin"), desk.begin(), tiles);
        return tiles;
    }

    void tile(int k) {
        due.is(at("tile", k), desk.tile(k), reference.tile(k));
    }

    void pixel(int x, int y) {
        due.is(at("pixel", x, y), desk.pixel(x, y), reference.pixel(x, y));
    }

    void nearness(int x, int y) {
        due.is(at("nearness", x, y), desk.nearness(x, y), reference.nearness(x, y));
    }

    void count(int what) {
        due.is(at("count", what), desk.count(what), reference.count(what));
    }

    void counts() {
        for (int what = 0; what < 5; what++) {
            count(what);
        }
    }
}
