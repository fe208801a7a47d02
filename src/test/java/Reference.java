import java.math.BigInteger;
import java.util.ArrayList;
import java.util.Arrays;
import java.util.HashMap;
import java.util.List;
import java.util.Map;

/**
 * The document once more, word by word and without care for speed or room: SUM and VALUE are whole fractions,
 * writing makes a list of bits with their contexts first, a document is looked at for faults before it is read.
 */
final class Reference {
    static final int NONE = -1;

    private record Glyph(int[][] rows, int w, int h, int base) {
        int at(int x, int y) {
            return x < 0 || y < 0 || x >= w || y >= h ? 0 : rows[y][x];
        }
    }

    private record Placing(int shape, int x, int y) { }

    private record Chunk(int kind, List<Integer> bytes) { }

    private record Picture(List<Glyph> glyphs, List<Placing> placings, int[][][] coefficients, int[][][] cells) { }

    private record CodedBit(int context, int bit) { }

    /** The state of a code that is written or read. */
    private static final class State {
        static final int POINT = 20000;
        final Map<Integer, int[]> counts = new HashMap<>();
        int width = 65536;
        BigInteger sum = BigInteger.ZERO;
        int scale = 0;

        int split(int context) {
            int[] c = counts.computeIfAbsent(context, k -> new int[] {1, 1});
            return width * c[0] / (c[0] + c[1]);
        }

        BigInteger fraction(int s) {
            return BigInteger.valueOf(s).shiftLeft(POINT - 16 - scale);
        }

        void step(int context, int bit) {
            int s = split(context);
            if (bit == 0) {
                width = s;
            } else {
                sum = sum.add(fraction(s));
                width -= s;
            }
            int[] c = counts.get(context);
            c[bit]++;
            if (c[0] + c[1] == 32) {
                c[0] = (c[0] + 1) / 2;
                c[1] = (c[1] + 1) / 2;
            }
            while (width <= 32768) {
                width *= 2;
                scale++;
            }
        }
    }

    private static List<Integer> bytesOf(List<CodedBit> bits) {
        State state = new State();
        for (CodedBit b : bits) {
            state.step(b.context(), b.bit());
        }
        List<Integer> bytes = new ArrayList<>();
        for (int first = 0; first < 16 + state.scale; first += 8) {
            int octet = 0;
            for (int i = first; i < first + 8; i++) {
                boolean one = i < 16 + state.scale && state.sum.testBit(State.POINT - 1 - i);
                octet = 2 * octet + (one ? 1 : 0);
            }
            bytes.add(octet);
        }
        return bytes;
    }

    /** The bytes of a code whose bits are given with their contexts: context, bit, context, bit, and so on. */
    static int[] code(int... contextsAndBits) {
        List<CodedBit> bits = new ArrayList<>();
        for (int i = 0; i < contextsAndBits.length; i += 2) {
            bits.add(new CodedBit(contextsAndBits[i], contextsAndBits[i + 1]));
        }
        return plain(bytesOf(bits));
    }

    /** The code of a layer with any coefficients, also such as no cells have. */
    static int[] layerCode(int[][] coefficients, int slices) {
        return plain(bytesOf(layerBits(coefficients, slices)));
    }

    private static int[] plain(List<Integer> bytes) {
        return bytes.stream().mapToInt(Integer::intValue).toArray();
    }

    private static final class Source {
        private final State state = new State();
        private BigInteger value = BigInteger.ZERO;

        Source(List<Integer> bytes) {
            for (int i = 0; i < bytes.size(); i++) {
                value = value.add(BigInteger.valueOf(bytes.get(i)).shiftLeft(State.POINT - 8 * (i + 1)));
            }
        }

        int bit(int context) {
            BigInteger s = state.fraction(state.split(context));
            int bit = value.subtract(state.sum).compareTo(s) >= 0 ? 1 : 0;
            state.step(context, bit);
            return bit;
        }
    }

    private static int contextOf(Glyph own, Glyph base, int x, int y) {
        int l = own.at(x - 1, y);
        int u = own.at(x, y - 1);
        if (base == null) {
            return l + 2 * own.at(x - 1, y - 1) + 4 * u + 8 * own.at(x + 1, y - 1);
        }
        return 16 + l + 2 * u + 4 * base.at(x, y) + 8 * base.at(x + 1, y) + 16 * base.at(x, y + 1);
    }

    private static int[] lifted(int[] x) {
        int m = x.length;
        int[] d = new int[m / 2];
        int[] row = new int[m];
        for (int i = 0; i < m / 2; i++) {
            int right = 2 * i + 2 == m ? x[m - 2] : x[2 * i + 2];
            d[i] = x[2 * i + 1] - Math.floorDiv(x[2 * i] + right, 2);
            row[m / 2 + i] = d[i];
        }
        for (int i = 0; i < m / 2; i++) {
            row[i] = x[2 * i] + Math.floorDiv((i == 0 ? d[0] : d[i - 1]) + d[i] + 2, 4);
        }
        return row;
    }

    private static int[] undone(int[] row) {
        int m = row.length;
        int[] s = Arrays.copyOfRange(row, 0, m / 2);
        int[] d = Arrays.copyOfRange(row, m / 2, m);
        int[] x = new int[m];
        for (int i = 0; i < m / 2; i++) {
            x[2 * i] = s[i] - Math.floorDiv((i == 0 ? d[0] : d[i - 1]) + d[i] + 2, 4);
        }
        for (int i = 0; i < m / 2; i++) {
            x[2 * i + 1] = d[i] + Math.floorDiv(x[2 * i] + (2 * i + 2 == m ? x[m - 2] : x[2 * i + 2]), 2);
        }
        return x;
    }

    private static int[] column(int[][] a, int x, int m) {
        int[] c = new int[m];
        for (int y = 0; y < m; y++) {
            c[y] = a[y][x];
        }
        return c;
    }

    private static void setColumn(int[][] a, int x, int[] c) {
        for (int y = 0; y < c.length; y++) {
            a[y][x] = c[y];
        }
    }

    private static int[][] copy(int[][] a) {
        int[][] b = new int[a.length][];
        for (int i = 0; i < a.length; i++) {
            b[i] = a[i].clone();
        }
        return b;
    }

    static int[][] coefficientsOf(int[][] cells) {
        int[][] a = copy(cells);
        for (int m = a.length; m >= 2; m /= 2) {
            for (int y = 0; y < m; y++) {
                System.arraycopy(lifted(Arrays.copyOf(a[y], m)), 0, a[y], 0, m);
            }
            for (int x = 0; x < m; x++) {
                setColumn(a, x, lifted(column(a, x, m)));
            }
        }
        return a;
    }

    static int[][] cellsOf(int[][] coefficients) {
        int[][] a = copy(coefficients);
        for (int m = 2; m <= a.length; m *= 2) {
            for (int x = 0; x < m; x++) {
                setColumn(a, x, undone(column(a, x, m)));
            }
            for (int y = 0; y < m; y++) {
                System.arraycopy(undone(Arrays.copyOf(a[y], m)), 0, a[y], 0, m);
            }
        }
        for (int[] row : a) {
            for (int x = 0; x < row.length; x++) {
                row[x] = row[x] < 0 ? 0 : row[x] > 63 ? 63 : row[x];
            }
        }
        return a;
    }

    private static boolean begun(int[][] c, int x, int y, int plane) {
        return x >= 0 && y >= 0 && Math.abs(c[y][x]) / (1 << plane) > 0;
    }

    private static int neighbours(int[][] c, int x, int y, int plane) {
        return (begun(c, x - 1, y, plane) ? 1 : 0) + (begun(c, x, y - 1, plane) ? 1 : 0);
    }

    private static List<CodedBit> layerBits(int[][] c, int slices) {
        List<CodedBit> bits = new ArrayList<>();
        for (int b = 9; b >= 10 - slices; b--) {
            for (int y = 0; y < c.length; y++) {
                for (int x = 0; x < c.length; x++) {
                    int g = Math.abs(c[y][x]) / (1 << b);
                    if (begun(c, x, y, b + 1)) {
                        bits.add(new CodedBit(4, g % 2));
                        continue;
                    }
                    bits.add(new CodedBit(neighbours(c, x, y, b), g));
                    if (g == 1) {
                        bits.add(new CodedBit(3, c[y][x] < 0 ? 1 : 0));
                    }
                }
            }
        }
        return bits;
    }

    private static int[][] readLayer(List<Integer> bytes, int n) {
        int[][] c = new int[n][n];
        Source source = new Source(bytes.subList(1, bytes.size()));
        for (int b = 9; b >= 10 - bytes.get(0); b--) {
            for (int y = 0; y < n; y++) {
                for (int x = 0; x < n; x++) {
                    if (begun(c, x, y, b + 1)) {
                        c[y][x] += Integer.signum(c[y][x]) * (source.bit(4) << b);
                    } else if (source.bit(neighbours(c, x, y, b)) == 1) {
                        c[y][x] = source.bit(3) == 1 ? -(1 << b) : 1 << b;
                    }
                }
            }
        }
        return c;
    }

    private static Glyph readGlyph(List<Integer> bytes, List<Glyph> before) {
        int w = bytes.get(1) / 16 + 1;
        int h = bytes.get(1) % 16 + 1;
        Glyph own = new Glyph(new int[h][w], w, h, bytes.get(0) - 1);
        Glyph base = own.base() < 0 ? null : before.get(own.base());
        Source source = new Source(bytes.subList(2, bytes.size()));
        for (int y = 0; y < h; y++) {
            for (int x = 0; x < w; x++) {
                own.rows()[y][x] = source.bit(contextOf(own, base, x, y));
            }
        }
        return own;
    }

    private List<Glyph> shapes = new ArrayList<>();
    private List<Placing> placings = new ArrayList<>();
    private int[][][] layers = {new int[8][8], new int[4][4]};
    private List<Integer> document = new ArrayList<>();
    private Picture picture = null;

    int shape(long bits, int w, int h, int base) {
        if (shapes.size() == 8 || w < 1 || w > 8 || h < 1 || h > 8 || base < NONE || base >= shapes.size()) {
            return NONE;
        }
        int[][] rows = new int[h][w];
        for (int y = 0; y < 8; y++) {
            for (int x = 0; x < 8; x++) {
                int bit = (int) (bits >>> (8 * y + x) & 1);
                if (x < w && y < h) {
                    rows[y][x] = bit;
                } else if (bit == 1) {
                    return NONE;
                }
            }
        }
        shapes.add(new Glyph(rows, w, h, base));
        return shapes.size() - 1;
    }

    int place(int shape, int x, int y) {
        if (placings.size() == 20 || shape < 0 || shape >= shapes.size() || x < 0 || x > 15 || y < 0 || y > 15) {
            return NONE;
        }
        placings.add(new Placing(shape, x, y));
        return placings.size();
    }

    boolean paint(int layer, int row, long cells) {
        if (layer < 0 || layer > 1 || row < 0 || row >= layers[layer].length) {
            return false;
        }
        int[] painted = new int[layers[layer].length];
        for (int x = 0; x < 8; x++) {
            int octet = (int) (cells >>> (8 * x) & 255);
            if (octet > 63 || x >= painted.length && octet != 0) {
                return false;
            }
            if (x < painted.length) {
                painted[x] = octet;
            }
        }
        layers[layer][row] = painted;
        return true;
    }

    void clear() {
        shapes = new ArrayList<>();
        placings = new ArrayList<>();
        layers = new int[][][] {new int[8][8], new int[4][4]};
    }

    private void writeChunk(int kind, List<Integer> bytes) {
        document.add(kind);
        document.add(bytes.size() / 256);
        document.add(bytes.size() % 256);
        document.addAll(bytes);
    }

    int encode(int slices) {
        if (slices < 0 || slices > 10) {
            return NONE;
        }
        document = new ArrayList<>(List.of(80, 71));
        for (Glyph g : shapes) {
            List<CodedBit> bits = new ArrayList<>();
            Glyph base = g.base() == NONE ? null : shapes.get(g.base());
            for (int y = 0; y < g.h(); y++) {
                for (int x = 0; x < g.w(); x++) {
                    bits.add(new CodedBit(contextOf(g, base, x, y), g.at(x, y)));
                }
            }
            List<Integer> bytes = new ArrayList<>(List.of(g.base() + 1, 16 * (g.w() - 1) + g.h() - 1));
            bytes.addAll(bytesOf(bits));
            writeChunk(1, bytes);
        }
        List<Integer> places = new ArrayList<>();
        for (Placing p : placings) {
            places.addAll(List.of(p.shape(), 16 * p.x() + p.y()));
        }
        writeChunk(2, places);
        for (int layer = 0; layer < 2; layer++) {
            List<Integer> bytes = new ArrayList<>(List.of(slices));
            bytes.addAll(bytesOf(layerBits(coefficientsOf(layers[layer]), slices)));
            writeChunk(3 + layer, bytes);
        }
        return document.size();
    }

    int length() {
        return document.size();
    }

    int octet(int k) {
        return k < 0 || k >= document.size() ? NONE : document.get(k);
    }

    boolean alter(int k, int v) {
        if (k < 0 || k > document.size() || k == 1200 || v < 0 || v > 255) {
            return false;
        }
        if (k == document.size()) {
            document.add(v);
        } else {
            document.set(k, v);
        }
        return true;
    }

    boolean cut(int n) {
        if (n < 0 || n > document.size()) {
            return false;
        }
        document = new ArrayList<>(document.subList(0, n));
        return true;
    }

    int decode() {
        if (document.size() < 2 || document.get(0) != 80 || document.get(1) != 71) {
            return 1;
        }
        List<Chunk> chunks = new ArrayList<>();
        int at = 2;
        while (at < document.size()) {
            int left = document.size() - at;
            if (left < 3 || left - 3 < 256 * document.get(at + 1) + document.get(at + 2)) {
                return 2;
            }
            int size = 256 * document.get(at + 1) + document.get(at + 2);
            Chunk chunk = new Chunk(document.get(at), document.subList(at + 3, at + 3 + size));
            int fault = faultOf(chunk, chunks);
            if (fault != 0) {
                return fault;
            }
            chunks.add(chunk);
            at += 3 + size;
        }
        picture = pictureOf(chunks);
        return 0;
    }

    private static int faultOf(Chunk chunk, List<Chunk> before) {
        List<Integer> bytes = chunk.bytes();
        int size = bytes.size();
        if (chunk.kind() < 1 || chunk.kind() > 4 || before.size() >= 16) {
            return 3;
        }
        long ofKind = before.stream().filter(c -> c.kind() == chunk.kind()).count();
        long glyphs = before.stream().filter(c -> c.kind() == 1).count();
        int placed = before.stream().filter(c -> c.kind() == 2).mapToInt(c -> c.bytes().size() / 2).sum();
        if (chunk.kind() == 1 && (glyphs >= 8 || size < 2 || bytes.get(0) > glyphs
                || bytes.get(1) / 16 > 7 || bytes.get(1) % 16 > 7)) {
            return 4;
        }
        if (chunk.kind() == 2 && (size % 2 == 1 || placed + size / 2 > 20)) {
            return 5;
        }
        for (int i = 0; chunk.kind() == 2 && i < size; i += 2) {
            if (bytes.get(i) >= glyphs) {
                return 5;
            }
        }
        return chunk.kind() >= 3 && (ofKind > 0 || size == 0 || bytes.get(0) > 10) ? 6 : 0;
    }

    private static Picture pictureOf(List<Chunk> chunks) {
        Picture made = new Picture(new ArrayList<>(), new ArrayList<>(),
                new int[][][] {new int[8][8], new int[4][4]}, new int[][][] {new int[8][8], new int[4][4]});
        for (Chunk chunk : chunks) {
            List<Integer> bytes = chunk.bytes();
            if (chunk.kind() == 1) {
                made.glyphs().add(readGlyph(bytes, made.glyphs()));
            } else if (chunk.kind() == 2) {
                for (int i = 0; i < bytes.size(); i += 2) {
                    made.placings().add(new Placing(bytes.get(i), bytes.get(i + 1) / 16, bytes.get(i + 1) % 16));
                }
            } else {
                int layer = chunk.kind() - 3;
                made.coefficients()[layer] = readLayer(bytes, layer == 0 ? 8 : 4);
                made.cells()[layer] = cellsOf(made.coefficients()[layer]);
            }
        }
        return made;
    }

    private boolean isOff(int x, int y) {
        return picture == null || x < 0 || x > 15 || y < 0 || y > 15;
    }

    int pixel(int x, int y) {
        if (isOff(x, y)) {
            return NONE;
        }
        return inked(x, y) ? picture.cells()[1][y / 4][x / 4] : picture.cells()[0][y / 2][x / 2];
    }

    boolean inked(int x, int y) {
        if (isOff(x, y)) {
            return false;
        }
        for (Placing p : picture.placings()) {
            if (picture.glyphs().get(p.shape()).at(x - p.x(), y - p.y()) == 1) {
                return true;
            }
        }
        return false;
    }

    private boolean isNoCell(int layer, int x, int y) {
        return picture == null || layer < 0 || layer > 1 || x < 0 || y < 0
                || x >= layers[layer].length || y >= layers[layer].length;
    }

    int cell(int layer, int x, int y) {
        return isNoCell(layer, x, y) ? NONE : picture.cells()[layer][y][x];
    }

    int coefficient(int layer, int x, int y) {
        return isNoCell(layer, x, y) ? 0 : picture.coefficients()[layer][y][x];
    }

    int shapes() {
        return picture == null ? NONE : picture.glyphs().size();
    }

    long glyph(int k) {
        if (picture == null || k < 0 || k >= picture.glyphs().size()) {
            return 0;
        }
        long bits = 0;
        for (int y = 0; y < 8; y++) {
            for (int x = 0; x < 8; x++) {
                bits |= (long) picture.glyphs().get(k).at(x, y) << (8 * y + x);
            }
        }
        return bits;
    }

    int placings() {
        return picture == null ? NONE : picture.placings().size();
    }
}
