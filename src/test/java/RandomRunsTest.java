import java.util.Random;

/** Promises 1 to 10 together: long runs of mixed calls against the Reference, the same ones each time. */
public final class RandomRunsTest {
    private static final Due due = new Due();
    private static final int CALLS = 512;

    public static void main(String[] args) {
        for (int run = 0; run < 300; run++) {
            mixedRun(run);
        }
        for (int run = 0; run < 40; run++) {
            wholePicture(run);
        }
        due.end();
    }

    private static void mixedRun(int run) {
        Random random = new Random(run);
        int width = random.nextInt(60) - 4;
        int height = random.nextInt(60) - 4;
        TileDesk desk = new TileDesk(width, height);
        Reference reference = new Reference(width, height);
        int grid = 1 << random.nextInt(5);
        int reach = run % 3 == 0 ? 4096 : 16 * 50;
        for (int call = 0; call < CALLS; call++) {
            oneCall("run " + run + ", call " + call + ": ", random, desk, reference, grid, reach);
        }
    }

    private static void oneCall(String at, Random random, TileDesk desk, Reference reference, int grid, int reach) {
        int kind = random.nextInt(100);
        if (kind < 36) {
            int k = random.nextInt(40) == 0 ? random.nextInt(7) - 2 : random.nextInt(3);
            int x = place(random, grid, reach);
            int y = place(random, grid, reach);
            int r = edgeOr(random, 1, 1048576, 1 + random.nextInt(random.nextBoolean() ? 40 : 1048576));
            int light = edgeOr(random, 0, 65536, random.nextInt(65537));
            due.is(at + "corner", desk.corner(k, x, y, r, light), reference.corner(k, x, y, r, light));
        } else if (kind < 50) {
            int tint = edgeOr(random, 0, 16777215, random.nextInt(16777216));
            int cover = random.nextInt(3) == 0 ? 255 : edgeOr(random, 0, 255, random.nextInt(256));
            due.is(at + "add", desk.add(tint, cover), reference.add(tint, cover));
        } else if (kind == 50 && random.nextInt(4) == 0) {
            desk.clear();
            reference.clear();
        } else if (kind == 51) {
            int colour = edgeOr(random, 0, 16777215, random.nextInt(16777216));
            due.is(at + "background", desk.background(colour), reference.background(colour));
        } else if (kind == 52) {
            due.is(at + "begin", desk.begin(), reference.begin());
        } else if (kind < 66) {
            int k = random.nextInt(40) - 2;
            due.is(at + "tile", desk.tile(k), reference.tile(k));
        } else if (kind < 94) {
            int x = random.nextInt(52) - 2;
            int y = random.nextInt(52) - 2;
            due.is(at + "pixel", desk.pixel(x, y), reference.pixel(x, y));
            due.is(at + "nearness", desk.nearness(x, y), reference.nearness(x, y));
        } else {
            int what = random.nextInt(7) - 1;
            due.is(at + "count", desk.count(what), reference.count(what));
        }
    }

    /** Places on a grid, so that edges often go through middles and corners often meet. */
    private static int place(Random random, int grid, int reach) {
        int free = Math.floorDiv(random.nextInt(2 * reach + 1) - reach, grid) * grid + (grid == 16 ? 8 : 0);
        return edgeOr(random, -4096, 4096, Math.max(-4096, Math.min(4096, free)));
    }

    /** Mostly the usual value; now and then one at or just beyond an edge. */
    private static int edgeOr(Random random, int least, int most, int usual) {
        switch (random.nextInt(60)) {
            case 0:
                return least;
            case 1:
                return most;
            case 2:
                return random.nextInt(4) == 0 ? least - 1 : least;
            case 3:
                return random.nextInt(4) == 0 ? most + 1 : most;
            default:
                return usual;
        }
    }

    /** Every pixel of a picture of many pieces. */
    private static void wholePicture(int run) {
        Random random = new Random(1000 + run);
        int width = 8 + random.nextInt(41);
        int height = 8 + random.nextInt(41);
        TileDesk desk = new TileDesk(width, height);
        Reference reference = new Reference(width, height);
        for (int n = 0; n < 60; n++) {
            for (int k = 0; k < 3; k++) {
                int x = place(random, run % 2 == 0 ? 16 : 1, 1000);
                int y = place(random, run % 2 == 0 ? 16 : 1, 1000);
                int r = 1 + random.nextInt(run % 4 == 0 ? 3 : 1048576);
                int light = random.nextInt(65537);
                desk.corner(k, x, y, r, light);
                reference.corner(k, x, y, r, light);
            }
            int tint = random.nextInt(16777216);
            int cover = random.nextInt(2) == 0 ? 255 : random.nextInt(256);
            due.is("whole picture " + run + ": add", desk.add(tint, cover), reference.add(tint, cover));
        }
        int tiles = reference.begin();
        due.is("whole picture " + run + ": begin", desk.begin(), tiles);
        for (int k = tiles - 1; k >= 0; k--) {
            due.is("whole picture " + run + ": tile", desk.tile(k), reference.tile(k));
        }
        for (int y = 0; y < height; y++) {
            for (int x = 0; x < width; x++) {
                String at = "whole picture " + run + " at " + x + ", " + y + ": ";
                due.is(at + "pixel", desk.pixel(x, y), reference.pixel(x, y));
                due.is(at + "nearness", desk.nearness(x, y), reference.nearness(x, y));
            }
        }
    }
}
