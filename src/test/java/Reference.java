import java.math.BigInteger;
import java.util.ArrayList;
import java.util.List;

/** The document told a second time, word by word and without care for room or speed. */
final class Reference {
    private record Corner(int x, int y, int r, int light) {
    }

    private record Piece(Corner[] corners, int tint, int cover) {
    }

    private final int width;
    private final int height;
    private final Corner[] text = {new Corner(0, 0, 1, 0), new Corner(0, 0, 1, 0), new Corner(0, 0, 1, 0)};
    private final List<Piece> pieces = new ArrayList<>();
    private int background = 0;
    private List<Piece> taken = null;
    private int takenBackground = 0;
    private final List<Integer> done = new ArrayList<>();

    Reference(int width, int height) {
        this.width = width < 8 ? 8 : width > 48 ? 48 : width;
        this.height = height < 8 ? 8 : height > 48 ? 48 : height;
    }

    boolean corner(int k, int x, int y, int r, int light) {
        if (k < 0 || k > 2 || x < -4096 || x > 4096 || y < -4096 || y > 4096) {
            return false;
        }
        if (r < 1 || r > 1048576 || light < 0 || light > 65536) {
            return false;
        }
        text[k] = new Corner(x, y, r, light);
        return true;
    }

    int add(int tint, int cover) {
        if (area(text) <= 0 || tint < 0 || tint > 16777215 || cover < 0 || cover > 255 || pieces.size() == 512) {
            return -1;
        }
        pieces.add(new Piece(text.clone(), tint, cover));
        return pieces.size() - 1;
    }

    void clear() {
        pieces.clear();
    }

    boolean background(int colour) {
        if (colour < 0 || colour > 16777215) {
            return false;
        }
        background = colour;
        return true;
    }

    int begin() {
        taken = new ArrayList<>(pieces);
        takenBackground = background;
        done.clear();
        return tiles();
    }

    boolean tile(int k) {
        if (taken == null || k < 0 || k >= tiles() || done.contains(k)) {
            return false;
        }
        done.add(k);
        return true;
    }

    int pixel(int x, int y) {
        return at(x, y)[0];
    }

    int nearness(int x, int y) {
        return at(x, y)[1];
    }

    int count(int what) {
        int[] counts = {pieces.size(), taken == null ? 0 : taken.size(), done.size(), width, height};
        return what < 0 || what > 4 ? -1 : counts[what];
    }

    private int tiles() {
        return (width + 7) / 8 * ((height + 7) / 8);
    }

    private static long area(Corner[] c) {
        return (long) (c[1].x - c[0].x) * (c[2].y - c[0].y) - (long) (c[2].x - c[0].x) * (c[1].y - c[0].y);
    }

    /** Colour and nearness, worked out when they are asked for. */
    private int[] at(int i, int j) {
        if (i < 0 || i >= width || j < 0 || j >= height || !done.contains(j / 8 * ((width + 7) / 8) + i / 8)) {
            return new int[] {-1, -1};
        }
        int[] there = {takenBackground, 0};
        for (Piece piece : taken) {
            lay(piece, 16 * i + 8, 16 * j + 8, there);
        }
        return there;
    }

    private static void lay(Piece piece, long x, long y, int[] there) {
        Corner[] c = piece.corners;
        BigInteger w0 = weight(c[1], c[2], x, y);
        BigInteger w1 = weight(c[2], c[0], x, y);
        BigInteger w2 = weight(c[0], c[1], x, y);
        if (w0 == null || w1 == null || w2 == null) {
            return;
        }
        BigInteger p0 = w0.multiply(BigInteger.valueOf(c[0].r));
        BigInteger p1 = w1.multiply(BigInteger.valueOf(c[1].r));
        BigInteger p2 = w2.multiply(BigInteger.valueOf(c[2].r));
        BigInteger h = p0.add(p1).add(p2);
        int nearness = h.divide(BigInteger.valueOf(area(c))).intValueExact();
        int light = p0.multiply(BigInteger.valueOf(c[0].light))
                .add(p1.multiply(BigInteger.valueOf(c[1].light)))
                .add(p2.multiply(BigInteger.valueOf(c[2].light)))
                .divide(h).intValueExact();
        if (nearness <= there[1]) {
            return;
        }
        int red = mix((int) ((long) (piece.tint / 65536) * light / 65536), there[0] / 65536, piece.cover);
        int green = mix((int) ((long) (piece.tint / 256 % 256) * light / 65536), there[0] / 256 % 256, piece.cover);
        int blue = mix((int) ((long) (piece.tint % 256) * light / 65536), there[0] % 256, piece.cover);
        there[0] = red * 65536 + green * 256 + blue;
        if (piece.cover == 255) {
            there[1] = nearness;
        }
    }

    private static int mix(int fresh, int old, int cover) {
        return cover == 255 ? fresh : (fresh * cover + old * (255 - cover)) / 255;
    }

    /** E of an edge; null if the pixel is not on its side. */
    private static BigInteger weight(Corner a, Corner b, long x, long y) {
        long e = (b.x - a.x) * (y - a.y) - (b.y - a.y) * (x - a.x);
        boolean inside = e > 0 || e == 0 && b.y < a.y || e == 0 && b.y == a.y && b.x > a.x;
        return inside ? BigInteger.valueOf(e) : null;
    }
}
