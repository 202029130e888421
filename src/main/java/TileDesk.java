/**
 * A picture that is drawn tile by tile, in any order of tiles, from pieces that have an order:
 * nearer ones hide what is behind them, clear ones let it through.
 */
public final class TileDesk {
    /** Nothing there. */
    public static final int NONE = -1;

    private static final int LEAST_SIDE = 8;
    private static final int MOST_SIDE = 48;
    private static final int TILE_SIDE = 8;
    private static final int PIXEL_SIDE = 16;
    private static final int PIXEL_MIDDLE = 8;

    private static final int MOST_PIECES = 512;
    private static final int CORNERS = 3;
    private static final int MOST_PLACE = 4096;
    private static final int PLACES = 2 * MOST_PLACE + 1;
    private static final int MOST_R = 1048576;
    private static final int MOST_LIGHT = 65536;
    private static final int LIGHTS = MOST_LIGHT + 1;
    private static final int MOST_COLOUR = 0xFFFFFF;
    private static final int SOLID = 255;

    private static final int RED_SHIFT = 16;
    private static final int NUMBER_BITS = 8;
    private static final int NUMBER_MASK = 255;

    private final Shape text = new Shape();
    private final Pieces pieces = new Pieces();
    private final Picture picture;
    private int backgroundNow = 0;

    public TileDesk(int width, int height) {
        picture = new Picture(nearestSide(width), nearestSide(height));
    }

    public boolean corner(int k, int x, int y, int r, int light) {
        boolean canBe = isWithin(k, 0, CORNERS - 1)
                && isWithin(x, -MOST_PLACE, MOST_PLACE)
                && isWithin(y, -MOST_PLACE, MOST_PLACE)
                && isWithin(r, 1, MOST_R)
                && isWithin(light, 0, MOST_LIGHT);
        if (canBe) {
            text.setCorner(k, x, y, r, light);
        }
        return canBe;
    }

    public int add(int tint, int cover) {
        if (!isColour(tint) || !isWithin(cover, 0, SOLID) || text.area() <= 0) {
            return NONE;
        }
        return pieces.append(text, tint, cover);
    }

    public void clear() {
        pieces.removeAll();
    }

    public boolean background(int colour) {
        if (!isColour(colour)) {
            return false;
        }
        backgroundNow = colour;
        return true;
    }

    public int begin() {
        return picture.start(pieces, backgroundNow);
    }

    public boolean tile(int k) {
        return picture.drawTile(k);
    }

    public int pixel(int x, int y) {
        return picture.isShown(x, y) ? picture.colours[picture.pixelIndex(x, y)] : NONE;
    }

    public int nearness(int x, int y) {
        return picture.isShown(x, y) ? picture.nearest[picture.pixelIndex(x, y)] : NONE;
    }

    public int count(int what) {
        switch (what) {
            case 0:
                return pieces.size;
            case 1:
                return picture.taken.size;
            case 2:
                return picture.doneTiles;
            case 3:
                return picture.width;
            case 4:
                return picture.height;
            default:
                return NONE;
        }
    }

    private static int nearestSide(int asked) {
        return Math.max(LEAST_SIDE, Math.min(MOST_SIDE, asked));
    }

    private static boolean isWithin(int value, int least, int most) {
        return value >= least && value <= most;
    }

    private static boolean isColour(int value) {
        return isWithin(value, 0, MOST_COLOUR);
    }

    /** The document's DIV; a divisor that is not above 0 never comes, and would give 0. */
    private static long quotient(long a, long b) {
        return b > 0 ? Math.floorDiv(a, b) : 0;
    }

    private static int litColour(int tint, long light) {
        int colour = 0;
        for (int shift = 0; shift <= RED_SHIFT; shift += NUMBER_BITS) {
            long number = tint >> shift & NUMBER_MASK;
            colour |= (int) quotient(number * light, MOST_LIGHT) << shift;
        }
        return colour;
    }

    private static int mixedColour(int fresh, int old, int cover) {
        int colour = 0;
        for (int shift = 0; shift <= RED_SHIFT; shift += NUMBER_BITS) {
            long freshNumber = fresh >> shift & NUMBER_MASK;
            long oldNumber = old >> shift & NUMBER_MASK;
            long sum = freshNumber * cover + oldNumber * (SOLID - cover);
            colour |= (int) quotient(sum, SOLID) << shift;
        }
        return colour;
    }

    /** Three corners, and how they weigh at the pixel that was looked at last. */
    private static final class Shape {
        private final long[] xs = new long[CORNERS];
        private final long[] ys = new long[CORNERS];
        private final long[] rs = {1, 1, 1};
        private final long[] lights = new long[CORNERS];
        private final long[] weights = new long[CORNERS];

        /** The caller has looked at k: it is 0 .. 2. */
        void setCorner(int k, long x, long y, long r, long light) {
            xs[k] = x;
            ys[k] = y;
            rs[k] = r;
            lights[k] = light;
        }

        /**
         * A corner as one number, so that two full lists of pieces stay small: the number of
         * different corners, 8193 * 8193 * 1048576 * 65537, is below 2 to the 63rd.
         */
        long packedCorner(int k) {
            long place = (xs[k] + MOST_PLACE) * PLACES + ys[k] + MOST_PLACE;
            return (place * MOST_R + rs[k] - 1) * LIGHTS + lights[k];
        }

        void unpackCorner(int k, long packed) {
            long withoutLight = packed / LIGHTS;
            long place = withoutLight / MOST_R;
            setCorner(k, place / PLACES - MOST_PLACE, place % PLACES - MOST_PLACE,
                    withoutLight % MOST_R + 1, packed % LIGHTS);
        }

        long area() {
            return (xs[1] - xs[0]) * (ys[2] - ys[0]) - (xs[2] - xs[0]) * (ys[1] - ys[0]);
        }

        /** Whether the pixel is covered; if it is, the weights are those of this pixel. */
        boolean coversPixel(int column, int row) {
            long x = PIXEL_SIDE * column + PIXEL_MIDDLE;
            long y = PIXEL_SIDE * row + PIXEL_MIDDLE;
            for (int k = 0; k < CORNERS; k++) {
                int a = (k + 1) % CORNERS;
                int b = (k + 2) % CORNERS;
                long e = (xs[b] - xs[a]) * (y - ys[a]) - (ys[b] - ys[a]) * (x - xs[a]);
                if (e < 0 || e == 0 && !ownsItsEdge(a, b)) {
                    return false;
                }
                weights[k] = e;
            }
            return true;
        }

        private boolean ownsItsEdge(int a, int b) {
            return ys[b] < ys[a] || ys[b] == ys[a] && xs[b] > xs[a];
        }

        private long weighedR() {
            return weights[0] * rs[0] + weights[1] * rs[1] + weights[2] * rs[2];
        }

        long nearnessHere() {
            return quotient(weighedR(), area());
        }

        /** At most 2 to the 62nd is divided: the weights add up to the area, at most 2 to the 26th. */
        long lightHere() {
            long weighedLight = weights[0] * rs[0] * lights[0]
                    + weights[1] * rs[1] * lights[1]
                    + weights[2] * rs[2] * lights[2];
            return quotient(weighedLight, weighedR());
        }

        int firstColumn() {
            return firstMiddle(least(xs));
        }

        int lastColumn() {
            return lastMiddle(most(xs));
        }

        int firstRow() {
            return firstMiddle(least(ys));
        }

        int lastRow() {
            return lastMiddle(most(ys));
        }

        private static long least(long[] places) {
            return Math.min(places[0], Math.min(places[1], places[2]));
        }

        private static long most(long[] places) {
            return Math.max(places[0], Math.max(places[1], places[2]));
        }

        /** The first column or row whose middle is not before the place. */
        private static int firstMiddle(long place) {
            return (int) quotient(place - PIXEL_MIDDLE + PIXEL_SIDE - 1, PIXEL_SIDE);
        }

        /** The last column or row whose middle is not behind the place. */
        private static int lastMiddle(long place) {
            return (int) quotient(place - PIXEL_MIDDLE, PIXEL_SIDE);
        }
    }

    /** Pieces in their order; the rows are made once, for as many as there can be. */
    private static final class Pieces {
        private final long[] corners = new long[CORNERS * MOST_PIECES];
        private final int[] tints = new int[MOST_PIECES];
        private final int[] covers = new int[MOST_PIECES];
        private int size = 0;

        int append(Shape shape, int tint, int cover) {
            if (size >= MOST_PIECES) {
                return NONE;
            }
            for (int k = 0; k < CORNERS; k++) {
                corners[CORNERS * size + k] = shape.packedCorner(k);
            }
            tints[size] = tint;
            covers[size] = cover;
            return size++;
        }

        void removeAll() {
            size = 0;
        }

        void copyFrom(Pieces other) {
            size = other.size;
            System.arraycopy(other.corners, 0, corners, 0, CORNERS * size);
            System.arraycopy(other.tints, 0, tints, 0, size);
            System.arraycopy(other.covers, 0, covers, 0, size);
        }

        /** The caller has looked at n: there is such a piece. */
        void unpackTo(Shape shape, int n) {
            for (int k = 0; k < CORNERS; k++) {
                shape.unpackCorner(k, corners[CORNERS * n + k]);
            }
        }
    }

    /** What the picture took when it began, and the tiles that are done since. */
    private static final class Picture {
        private final int width;
        private final int height;
        private final int tilesAcross;
        private final int[] colours;
        private final int[] nearest;
        private final boolean[] done;
        private final Pieces taken = new Pieces();
        private final Shape shape = new Shape();
        private int background = 0;
        private boolean begun = false;
        private int doneTiles = 0;
        // The pixels of the tile in work: from left and top on, up to right and bottom without these.
        private int left = 0;
        private int top = 0;
        private int right = 0;
        private int bottom = 0;

        /** The caller has brought both sides to 8 .. 48. */
        Picture(int width, int height) {
            this.width = width;
            this.height = height;
            tilesAcross = (width + TILE_SIDE - 1) / TILE_SIDE;
            int tilesDown = (height + TILE_SIDE - 1) / TILE_SIDE;
            colours = new int[width * height];
            nearest = new int[width * height];
            done = new boolean[tilesAcross * tilesDown];
        }

        int start(Pieces pieces, int colour) {
            taken.copyFrom(pieces);
            background = colour;
            begun = true;
            doneTiles = 0;
            for (int k = 0; k < done.length; k++) {
                done[k] = false;
            }
            return done.length;
        }

        int pixelIndex(int x, int y) {
            return y * width + x;
        }

        boolean isShown(int x, int y) {
            return isWithin(x, 0, width - 1) && isWithin(y, 0, height - 1)
                    && done[y / TILE_SIDE * tilesAcross + x / TILE_SIDE];
        }

        boolean drawTile(int k) {
            if (!begun || k < 0 || k >= done.length || done[k]) {
                return false;
            }
            frameTile(k);
            fillWithBackground();
            for (int n = 0; n < taken.size; n++) {
                drawPiece(n);
            }
            done[k] = true;
            doneTiles++;
            return true;
        }

        private void frameTile(int k) {
            int row = (int) quotient(k, tilesAcross);
            int column = k - row * tilesAcross;
            left = column * TILE_SIDE;
            top = row * TILE_SIDE;
            right = Math.min(width, left + TILE_SIDE);
            bottom = Math.min(height, top + TILE_SIDE);
        }

        private void fillWithBackground() {
            for (int y = top; y < bottom; y++) {
                for (int x = left; x < right; x++) {
                    colours[pixelIndex(x, y)] = background;
                    nearest[pixelIndex(x, y)] = 0;
                }
            }
        }

        /** Looks only at the pixels in the box round the piece: no others can be covered. */
        private void drawPiece(int n) {
            taken.unpackTo(shape, n);
            int firstX = Math.max(left, shape.firstColumn());
            int lastX = Math.min(right - 1, shape.lastColumn());
            int firstY = Math.max(top, shape.firstRow());
            int lastY = Math.min(bottom - 1, shape.lastRow());
            for (int y = firstY; y <= lastY; y++) {
                for (int x = firstX; x <= lastX; x++) {
                    if (shape.coversPixel(x, y)) {
                        paint(pixelIndex(x, y), taken.tints[n], taken.covers[n]);
                    }
                }
            }
        }

        private void paint(int at, int tint, int cover) {
            int nearness = (int) shape.nearnessHere();
            if (nearness <= nearest[at]) {
                return;
            }
            int fresh = litColour(tint, shape.lightHere());
            if (cover == SOLID) {
                colours[at] = fresh;
                nearest[at] = nearness;
            } else {
                colours[at] = mixedColour(fresh, colours[at], cover);
            }
        }
    }
}
