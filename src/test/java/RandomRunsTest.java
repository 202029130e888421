import java.util.Random;

/** Promises 1 to 10 together: runs of 512 mixed calls against the Reference, the same ones each time. */
public final class RandomRunsTest {
    private static final Due due = new Due();
    private static final int CALLS = 512;

    public static void main(String[] args) {
        for (int run = 0; run < 400; run++) {
            mixedRun(run);
        }
        for (int run = 0; run < 40; run++) {
            wholePicture(run);
        }
        due.end();
    }

    private static void mixedRun(int run) {
        Random random = new Random(run);
        Pair pair = new Pair(due, "run " + run, random.nextInt(60) - 4, random.nextInt(60) - 4);
        int grid = 1 << random.nextInt(5);
        int reach = run % 3 == 0 ? 4096 : 16 * 50;
        while (pair.calls() < CALLS) {
            oneCall(pair, random, grid, reach);
        }
    }

    private static void oneCall(Pair pair, Random random, int grid, int reach) {
        int kind = random.nextInt(100);
        if (kind < 36) {
            int k = random.nextInt(40) == 0 ? random.nextInt(7) - 2 : random.nextInt(3);
            int x = place(random, grid, reach);
            int y = place(random, grid, reach);
            int r = edgeOr(random, 1, 1048576, 1 + random.nextInt(random.nextBoolean() ? 40 : 1048576));
            pair.corner(k, x, y, r, edgeOr(random, 0, 65536, random.nextInt(65537)));
        } else if (kind < 50) {
            int tint = edgeOr(random, 0, 16777215, random.nextInt(16777216));
            pair.add(tint, random.nextInt(3) == 0 ? 255 : edgeOr(random, 0, 255, random.nextInt(256)));
        } else if (kind == 50) {
            if (random.nextInt(4) == 0) {
                pair.clear();
            }
        } else if (kind == 51) {
            pair.background(edgeOr(random, 0, 16777215, random.nextInt(16777216)));
        } else if (kind == 52) {
            pair.begin();
        } else if (kind < 66) {
            pair.tile(random.nextInt(40) - 2);
        } else if (kind < 81) {
            pair.pixel(random.nextInt(52) - 2, random.nextInt(52) - 2);
        } else if (kind < 96) {
            pair.nearness(random.nextInt(52) - 2, random.nextInt(52) - 2);
        } else {
            pair.count(random.nextInt(7) - 1);
        }
    }

    /** Places on a grid, so that edges often go through middles and corners often meet. */
    private static int place(Random random, int grid, int reach) {
        int free = Math.floorDiv(random.nextInt(2 * reach + 1) - reach, grid) * grid + (grid == 16 ? 8 : 0);
        return edgeOr(random, -4096, 4096, Math.max(-4096, Math.min(4096, free)));
    }

    /** Mostly the usual value; now and then one at or just beyond an edge. */
    private static int edgeOr(Random random, int least, int most, int usual) {
        switch (random.nextInt(60)) {
            case 0:
                return least;
            case 1:
                return most;
            case 2:
                return random.nextInt(4) == 0 ? least - 1 : least;
            case 3:
                return random.nextInt(4) == 0 ? most + 1 : most;
            default:
                return usual;
        }
    }

    /** Every pixel of a picture of many pieces: drawn anew for every two rows, for the sake of 512 calls. */
    private static void wholePicture(int run) {
        for (int first = 0; first < 48; first += 2) {
            Random random = new Random(1000 + run);
            int width = 8 + random.nextInt(41);
            int height = 8 + random.nextInt(41);
            Pair pair = new Pair(due, "whole picture " + run, width, height);
            addManyPieces(pair, random, run);
            for (int k = pair.begin() - 1; k >= 0; k--) {
                pair.tile(k);
            }
            for (int y = first; y < first + 2 && y < height; y++) {
                for (int x = 0; x < width; x++) {
                    pair.pixel(x, y);
                    pair.nearness(x, y);
                }
            }
        }
    }

    private static void addManyPieces(Pair pair, Random random, int run) {
        for (int n = 0; n < 60; n++) {
            for (int k = 0; k < 3; k++) {
                int x = place(random, run % 2 == 0 ? 16 : 1, 1000);
                int y = place(random, run % 2 == 0 ? 16 : 1, 1000);
                int r = 1 + random.nextInt(run % 4 == 0 ? 3 : 1048576);
                pair.corner(k, x, y, r, random.nextInt(65537));
            }
            pair.add(random.nextInt(16777216), random.nextInt(2) == 0 ? 255 : random.nextInt(256));
        }
    }
}
