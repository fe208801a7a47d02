import java.util.Arrays;

/**
 * Pages with a mask and two layers of colour: a draft of one, the document it is written to, and
 * the picture that is read from a document.
 */
public final class LayeredPage {
    /** Refused, or nothing there. */
    public static final int NONE = -1;

    private static final int PAGE_SIZE = 16;
    private static final int SHAPE_SIZE = 8;
    private static final int SHAPE_LIMIT = 8;
    private static final int PLACING_LIMIT = 20;
    private static final int GROUND_SIZE = 8;
    private static final int INK_SIZE = 4;
    /** How many pixels a cell is wide and high. */
    private static final int GROUND_PIXELS = PAGE_SIZE / GROUND_SIZE;
    private static final int INK_PIXELS = PAGE_SIZE / INK_SIZE;
    private static final int CELL_LIMIT = 63;
    private static final int SLICE_LIMIT = 10;
    private static final int OCTET_LIMIT = 1200;
    private static final int CHUNK_LIMIT = 16;

    private static final int FIRST_OCTET = 80;
    private static final int SECOND_OCTET = 71;
    private static final int START_SIZE = 2;
    private static final int HEAD_SIZE = 3;
    private static final int KIND_SHAPE = 1;
    private static final int KIND_PLACINGS = 2;
    private static final int KIND_GROUND = 3;
    private static final int KIND_INK = 4;

    private static final long BYTE_TOPS = 0xC0C0C0C0C0C0C0C0L;

    private final Octets document = new Octets();
    private final DocumentWriter writer = new DocumentWriter();
    private final DocumentReader reader = new DocumentReader();
    private final Page draft = new Page();
    private boolean hasPicture = false;
    private Page picture = new Page();
    /** A document is read into this page, so that a fault found late leaves the picture as it was. */
    private Page spare = new Page();

    public LayeredPage() {
    }

    public int shape(long bits, int w, int h, int base) {
        boolean knownBase = base == NONE || draft.hasShape(base);
        if (!knownBase || !isShapeSide(w) || !isShapeSide(h) || (bits & ~shapeMask(w, h)) != 0) {
            return NONE;
        }
        return draft.addShape(bits, w, h, base);
    }

    public int place(int shape, int x, int y) {
        if (!isOnPage(x, y) || !draft.hasShape(shape)) {
            return NONE;
        }
        return draft.addPlacing(shape, PAGE_SIZE * x + y);
    }

    public boolean paint(int layer, int row, long cells) {
        Layer painted = draft.layerOf(layer);
        if (painted == null || !painted.hasCell(0, row) || (cells & BYTE_TOPS) != 0) {
            return false;
        }
        boolean tooWide = painted.size < 8 && cells >>> (8 * painted.size) != 0;
        if (tooWide) {
            return false;
        }
        painted.setRow(row, cells);
        return true;
    }

    public void clear() {
        draft.makeEmpty();
    }

    public int encode(int slices) {
        if (slices < 0 || slices > SLICE_LIMIT) {
            return NONE;
        }
        writer.write(draft, slices, document);
        return document.count;
    }

    public int length() {
        return document.count;
    }

    public int octet(int k) {
        return document.at(k);
    }

    public boolean alter(int k, int v) {
        if (k < 0 || k > document.count || k >= OCTET_LIMIT || v < 0 || v > 255) {
            return false;
        }
        document.set(k, v);
        return true;
    }

    public boolean cut(int n) {
        if (n < 0 || n > document.count) {
            return false;
        }
        document.keep(n);
        return true;
    }

    public int decode() {
        int fault = reader.read(document, spare);
        if (fault == 0) {
            Page old = picture;
            picture = spare;
            spare = old;
            hasPicture = true;
        }
        return fault;
    }

    public int pixel(int x, int y) {
        if (!hasPicture || !isOnPage(x, y)) {
            return NONE;
        }
        if (picture.isInked(x, y)) {
            return picture.ink.cellAt(x / INK_PIXELS, y / INK_PIXELS);
        }
        return picture.ground.cellAt(x / GROUND_PIXELS, y / GROUND_PIXELS);
    }

    public boolean inked(int x, int y) {
        return hasPicture && isOnPage(x, y) && picture.isInked(x, y);
    }

    public int cell(int layer, int x, int y) {
        Layer found = pictureLayer(layer);
        return found == null ? NONE : found.cellAt(x, y);
    }

    public int coefficient(int layer, int x, int y) {
        Layer found = pictureLayer(layer);
        return found == null ? 0 : found.coefficientAt(x, y);
    }

    public int shapes() {
        return hasPicture ? picture.shapeCount : NONE;
    }

    public long glyph(int k) {
        return hasPicture && picture.hasShape(k) ? picture.shapes[k].bits : 0;
    }

    public int placings() {
        return hasPicture ? picture.placingCount : NONE;
    }

    private Layer pictureLayer(int layer) {
        return hasPicture ? picture.layerOf(layer) : null;
    }

    private static boolean isOnPage(int x, int y) {
        return x >= 0 && x < PAGE_SIZE && y >= 0 && y < PAGE_SIZE;
    }

    private static boolean isShapeSide(int side) {
        return side >= 1 && side <= SHAPE_SIZE;
    }

    private static long shapeMask(int w, int h) {
        long row = (1L << w) - 1;
        long mask = 0;
        for (int y = 0; y < h; y++) {
            mask |= row << (SHAPE_SIZE * y);
        }
        return mask;
    }

    /** Shapes, their placings and the two layers: a draft, or what was read from a document. */
    private static final class Page {
        final Shape[] shapes = new Shape[SHAPE_LIMIT];
        int shapeCount = 0;
        final int[] placedShapes = new int[PLACING_LIMIT];
        /** 16 * x + y of every placing, as it stands in a document. */
        final int[] spots = new int[PLACING_LIMIT];
        int placingCount = 0;
        final Layer ground = new Layer(GROUND_SIZE);
        final Layer ink = new Layer(INK_SIZE);

        Page() {
            for (int k = 0; k < SHAPE_LIMIT; k++) {
                shapes[k] = new Shape();
            }
        }

        void makeEmpty() {
            shapeCount = 0;
            placingCount = 0;
            ground.makeEmpty();
            ink.makeEmpty();
        }

        boolean hasShape(int k) {
            return k >= 0 && k < shapeCount;
        }

        Layer layerOf(int number) {
            if (number == 0) {
                return ground;
            }
            return number == 1 ? ink : null;
        }

        int addShape(long bits, int width, int height, int base) {
            if (shapeCount >= SHAPE_LIMIT) {
                return NONE;
            }
            Shape added = shapes[shapeCount];
            added.bits = bits;
            added.width = width;
            added.height = height;
            added.base = base;
            shapeCount++;
            return shapeCount - 1;
        }

        int addPlacing(int shape, int spot) {
            if (placingCount >= PLACING_LIMIT) {
                return NONE;
            }
            placedShapes[placingCount] = shape;
            spots[placingCount] = spot;
            placingCount++;
            return placingCount;
        }

        boolean isInked(int x, int y) {
            for (int i = 0; i < placingCount; i++) {
                int left = spots[i] / PAGE_SIZE;
                int top = spots[i] % PAGE_SIZE;
                if (shapes[placedShapes[i]].bitAt(x - left, y - top) == 1) {
                    return true;
                }
            }
            return false;
        }

        /**
         * Sends the bits of shape k through a coder. What comes out is added to the shape's bits: when
         * writing it is the same bits, when reading the shape had none before.
         */
        void codeShape(int k, Coder coder) {
            Shape own = shapes[k];
            Shape base = hasShape(own.base) ? shapes[own.base] : null;
            for (int y = 0; y < own.height; y++) {
                for (int x = 0; x < own.width; x++) {
                    int context = base == null ? own.contextAlone(x, y) : own.contextWith(base, x, y);
                    if (coder.code(context, own.bitAt(x, y)) == 1) {
                        own.bits |= 1L << (SHAPE_SIZE * y + x);
                    }
                }
            }
        }
    }

    private static final class Shape {
        long bits = 0;
        int width = 1;
        int height = 1;
        int base = NONE;

        int bitAt(int x, int y) {
            if (x < 0 || x >= width || y < 0 || y >= height) {
                return 0;
            }
            return (int) (bits >>> (SHAPE_SIZE * y + x)) & 1;
        }

        int contextAlone(int x, int y) {
            return bitAt(x - 1, y) + 2 * bitAt(x - 1, y - 1) + 4 * bitAt(x, y - 1) + 8 * bitAt(x + 1, y - 1);
        }

        int contextWith(Shape other, int x, int y) {
            return 16 + bitAt(x - 1, y) + 2 * bitAt(x, y - 1)
                    + 4 * other.bitAt(x, y) + 8 * other.bitAt(x + 1, y) + 16 * other.bitAt(x, y + 1);
        }
    }

    /** The cells of a layer and their coefficients, row by row. */
    private static final class Layer {
        private static final int CONTEXT_SIGN = 3;
        private static final int CONTEXT_BEGUN = 4;

        final int size;
        private final int[] cells;
        private final int[] coefficients;
        /** The coefficients as far as the planes that went through a coder tell them. */
        private final int[] coded;
        private final int[] line;
        /** Whether the document that is read into this layer has had it already. */
        boolean came = false;

        Layer(int size) {
            this.size = size;
            cells = new int[size * size];
            coefficients = new int[size * size];
            coded = new int[size * size];
            line = new int[size];
        }

        void makeEmpty() {
            Arrays.fill(cells, 0);
            Arrays.fill(coefficients, 0);
            came = false;
        }

        boolean hasCell(int x, int y) {
            return x >= 0 && x < size && y >= 0 && y < size;
        }

        private int indexOf(int x, int y) {
            return size * y + x;
        }

        int cellAt(int x, int y) {
            return hasCell(x, y) ? cells[indexOf(x, y)] : NONE;
        }

        int coefficientAt(int x, int y) {
            return hasCell(x, y) ? coefficients[indexOf(x, y)] : 0;
        }

        void setRow(int row, long octets) {
            for (int x = 0; x < size; x++) {
                cells[indexOf(x, row)] = (int) (octets >>> (8 * x)) & 255;
            }
        }

        void liftCells() {
            System.arraycopy(cells, 0, coefficients, 0, cells.length);
            for (int m = size; m >= 2; m /= 2) {
                for (int y = 0; y < m; y++) {
                    liftLine(size * y, 1, m);
                }
                for (int x = 0; x < m; x++) {
                    liftLine(x, size, m);
                }
            }
        }

        // A shift to the right rounds down for negative numbers too, which / does not.
        private void liftLine(int from, int step, int m) {
            int half = m / 2;
            for (int i = 0; i < m; i++) {
                line[i] = coefficients[from + i * step];
            }
            int before = 0;
            for (int i = 0; i < half; i++) {
                int next = line[2 * i + 2 < m ? 2 * i + 2 : m - 2];
                int difference = line[2 * i + 1] - ((line[2 * i] + next) >> 1);
                if (i == 0) {
                    before = difference;
                }
                coefficients[from + i * step] = line[2 * i] + ((before + difference + 2) >> 2);
                coefficients[from + (half + i) * step] = difference;
                before = difference;
            }
        }

        void undoCoefficients() {
            System.arraycopy(coefficients, 0, cells, 0, cells.length);
            for (int m = 2; m <= size; m *= 2) {
                for (int x = 0; x < m; x++) {
                    undoLine(x, size, m);
                }
                for (int y = 0; y < m; y++) {
                    undoLine(size * y, 1, m);
                }
            }
            for (int i = 0; i < cells.length; i++) {
                cells[i] = Math.max(0, Math.min(CELL_LIMIT, cells[i]));
            }
        }

        private void undoLine(int from, int step, int m) {
            int half = m / 2;
            for (int i = 0; i < m; i++) {
                line[i] = cells[from + i * step];
            }
            for (int i = 0; i < half; i++) {
                int before = line[i == 0 ? half : half + i - 1];
                cells[from + 2 * i * step] = line[i] - ((before + line[half + i] + 2) >> 2);
            }
            for (int i = 0; i < half; i++) {
                int left = cells[from + 2 * i * step];
                int right = cells[from + (2 * i + 2 < m ? 2 * i + 2 : m - 2) * step];
                cells[from + (2 * i + 1) * step] = line[half + i] + ((left + right) >> 1);
            }
        }

        /**
         * Sends the coefficients through a coder and takes what comes out for them: when writing that is
         * what the slices leave of them, when reading they were 0 before and are not looked at.
         */
        void codeCoefficients(int slices, Coder coder) {
            Arrays.fill(coded, 0);
            for (int plane = SLICE_LIMIT - 1; plane >= SLICE_LIMIT - slices; plane--) {
                for (int i = 0; i < coded.length; i++) {
                    codePlaneBit(plane, i, coder);
                }
            }
            System.arraycopy(coded, 0, coefficients, 0, coded.length);
        }

        private void codePlaneBit(int plane, int i, Coder coder) {
            int wanted = coefficients[i];
            int bit = (Math.abs(wanted) >> plane) & 1;
            if (coded[i] != 0) {
                int step = coder.code(CONTEXT_BEGUN, bit) << plane;
                coded[i] += coded[i] < 0 ? -step : step;
            } else if (coder.code(begunNeighbours(i), bit) == 1) {
                boolean negative = coder.code(CONTEXT_SIGN, wanted < 0 ? 1 : 0) == 1;
                coded[i] = negative ? -(1 << plane) : 1 << plane;
            }
        }

        private int begunNeighbours(int i) {
            int left = i % size > 0 && coded[i - 1] != 0 ? 1 : 0;
            int upper = i >= size && coded[i - size] != 0 ? 1 : 0;
            return left + upper;
        }
    }

    /** The bytes of the document. Behind its end the row has zeros alone: codes are added up there. */
    private static final class Octets {
        final int[] row = new int[OCTET_LIMIT];
        int count = 0;

        int at(int k) {
            return k >= 0 && k < count ? row[k] : NONE;
        }

        void set(int k, int v) {
            if (k >= 0 && k <= count && k < OCTET_LIMIT) {
                row[k] = v;
                count = Math.max(count, k + 1);
            }
        }

        void append(int v) {
            set(count, v);
        }

        void keep(int n) {
            if (n >= 0 && n <= count) {
                for (int k = n; k < count; k++) {
                    row[k] = 0;
                }
                count = n;
            }
        }

        /** So many bytes that stand behind the end already are the document's now. */
        void take(int n) {
            count = Math.min(OCTET_LIMIT, count + n);
        }

        /** Answers where the chunk's bytes begin. */
        int openChunk(int kind) {
            append(kind);
            append(0);
            append(0);
            return count;
        }

        void closeChunk(int from) {
            int size = count - from;
            set(from - 2, size / 256);
            set(from - 1, size % 256);
        }

        /** The LENGTH of the chunk whose KIND stands at head; NONE when it is not there as a whole. */
        int chunkSize(int head) {
            if (count - head < HEAD_SIZE) {
                return NONE;
            }
            int size = 256 * at(head + 1) + at(head + 2);
            return size > count - head - HEAD_SIZE ? NONE : size;
        }
    }

    /** What writing and reading of a code share: the counts of the contexts and the width. */
    private abstract static class Coder {
        private static final int CONTEXTS = 48;
        private static final int FULL_WIDTH = 65536;
        private static final int HALF_WIDTH = 32768;
        private static final int COUNT_LIMIT = 32;
        static final int DIGITS = 16;

        private final int[] zeros = new int[CONTEXTS];
        private final int[] ones = new int[CONTEXTS];
        private int width = FULL_WIDTH;

        // No count is ever 0, as their sum divides.
        Coder() {
            restart();
        }

        /** Writes the bit, or reads one and pays no heed to the bit; answers what was written or read. */
        abstract int choose(int split, int bit);

        /** The scale grows by 1. */
        abstract void shift();

        final void restart() {
            Arrays.fill(zeros, 1);
            Arrays.fill(ones, 1);
            width = FULL_WIDTH;
        }

        final int code(int context, int bit) {
            int split = width * zeros[context] / (zeros[context] + ones[context]);
            int chosen = choose(split, bit);
            width = chosen == 0 ? split : width - split;
            tally(context, chosen);
            // No width is below 1, so sixteen doublings are always enough.
            for (int i = 0; i < DIGITS && width <= HALF_WIDTH; i++) {
                width *= 2;
                shift();
            }
            return chosen;
        }

        private void tally(int context, int bit) {
            if (bit == 0) {
                zeros[context]++;
            } else {
                ones[context]++;
            }
            if (zeros[context] + ones[context] == COUNT_LIMIT) {
                zeros[context] = (zeros[context] + 1) / 2;
                ones[context] = (ones[context] + 1) / 2;
            }
        }
    }

    /** Adds a code's sum up, carries and all, in the bytes of a row, which are 0 before. */
    private static final class CodeWriter extends Coder {
        private int[] row = new int[0];
        private int start = 0;
        private int scale = 0;

        void begin(int[] target, int from) {
            restart();
            row = target;
            start = from;
            scale = 0;
        }

        int choose(int split, int bit) {
            int last = start + scale / 8 + 2;
            if (bit == 1 && last < row.length) {
                int carry = split << (8 - scale % 8);
                for (int i = last; i >= start && carry > 0; i--) {
                    carry += row[i];
                    row[i] = carry & 255;
                    carry >>= 8;
                }
            }
            return bit;
        }

        void shift() {
            scale++;
        }

        /** How many bytes the code has. */
        int size() {
            return (DIGITS + scale + 7) / 8;
        }
    }

    /** Reads a code from the bytes of a row. */
    private static final class CodeReader extends Coder {
        private int[] row = new int[0];
        private int at = 0;
        private int end = 0;
        private int digit = 0;
        /** VALUE - SUM in whole steps of 1 / 2^(16 + SCALE): a split is whole, so no more is needed. */
        private int rest = 0;

        void begin(int[] source, int from, int behind) {
            restart();
            row = source;
            at = from;
            end = Math.min(behind, source.length);
            digit = 0;
            rest = 0;
            for (int i = 0; i < DIGITS; i++) {
                shift();
            }
        }

        int choose(int split, int bit) {
            if (rest < split) {
                return 0;
            }
            rest -= split;
            return 1;
        }

        void shift() {
            rest *= 2;
            if (at < end) {
                rest += (row[at] >> (7 - digit)) & 1;
                digit = (digit + 1) % 8;
                at += digit == 0 ? 1 : 0;
            }
        }
    }

    private static final class DocumentWriter {
        private final CodeWriter coder = new CodeWriter();

        void write(Page page, int slices, Octets octets) {
            octets.keep(0);
            octets.append(FIRST_OCTET);
            octets.append(SECOND_OCTET);
            for (int k = 0; k < page.shapeCount; k++) {
                writeShape(page, k, octets);
            }
            writePlacings(page, octets);
            writeLayer(KIND_GROUND, page.ground, slices, octets);
            writeLayer(KIND_INK, page.ink, slices, octets);
        }

        private void writeShape(Page page, int k, Octets octets) {
            Shape written = page.shapes[k];
            int from = octets.openChunk(KIND_SHAPE);
            octets.append(written.base == NONE ? 0 : written.base + 1);
            octets.append(16 * (written.width - 1) + written.height - 1);
            coder.begin(octets.row, octets.count);
            page.codeShape(k, coder);
            octets.take(coder.size());
            octets.closeChunk(from);
        }

        private void writePlacings(Page page, Octets octets) {
            int from = octets.openChunk(KIND_PLACINGS);
            for (int i = 0; i < page.placingCount; i++) {
                octets.append(page.placedShapes[i]);
                octets.append(page.spots[i]);
            }
            octets.closeChunk(from);
        }

        private void writeLayer(int kind, Layer layer, int slices, Octets octets) {
            int from = octets.openChunk(kind);
            octets.append(slices);
            layer.liftCells();
            coder.begin(octets.row, octets.count);
            layer.codeCoefficients(slices, coder);
            octets.take(coder.size());
            octets.closeChunk(from);
        }
    }

    private static final class DocumentReader {
        private static final int FAULT_START = 1;
        private static final int FAULT_SIZE = 2;
        private static final int FAULT_KIND = 3;
        private static final int FAULT_SHAPE = 4;
        private static final int FAULT_PLACINGS = 5;
        private static final int FAULT_LAYER = 6;

        private final CodeReader coder = new CodeReader();

        /** Reads the document into the page; answers the first fault, or 0. */
        int read(Octets octets, Page page) {
            page.makeEmpty();
            if (octets.at(0) != FIRST_OCTET || octets.at(1) != SECOND_OCTET) {
                return FAULT_START;
            }
            int fault = 0;
            int head = START_SIZE;
            // One chunk too many is looked at as well, as its size may be wrong, which comes first.
            for (int before = 0; before <= CHUNK_LIMIT && head < octets.count && fault == 0; before++) {
                int from = head + HEAD_SIZE;
                int size = octets.chunkSize(head);
                int kind = octets.at(head);
                if (size == NONE) {
                    fault = FAULT_SIZE;
                } else if (kind < KIND_SHAPE || kind > KIND_INK || before == CHUNK_LIMIT) {
                    fault = FAULT_KIND;
                } else if (kind == KIND_SHAPE) {
                    fault = readShape(octets, from, size, page);
                } else if (kind == KIND_PLACINGS) {
                    fault = readPlacings(octets, from, size, page);
                } else {
                    fault = readLayer(octets, from, size, kind == KIND_GROUND ? page.ground : page.ink);
                }
                head = from + size;
            }
            return fault;
        }

        private int readShape(Octets octets, int from, int size, Page page) {
            if (size < 2 || octets.at(from) > page.shapeCount) {
                return FAULT_SHAPE;
            }
            int base = octets.at(from) == 0 ? NONE : octets.at(from) - 1;
            int width = octets.at(from + 1) / 16 + 1;
            int height = octets.at(from + 1) % 16 + 1;
            if (!isShapeSide(width) || !isShapeSide(height)) {
                return FAULT_SHAPE;
            }
            int added = page.addShape(0, width, height, base);
            if (added == NONE) {
                return FAULT_SHAPE;
            }
            coder.begin(octets.row, from + 2, from + size);
            page.codeShape(added, coder);
            return 0;
        }

        private int readPlacings(Octets octets, int from, int size, Page page) {
            if (size % 2 != 0 || size / 2 > PLACING_LIMIT - page.placingCount) {
                return FAULT_PLACINGS;
            }
            for (int k = from; k < from + size; k += 2) {
                if (!page.hasShape(octets.at(k))) {
                    return FAULT_PLACINGS;
                }
                page.addPlacing(octets.at(k), octets.at(k + 1));
            }
            return 0;
        }

        private int readLayer(Octets octets, int from, int size, Layer layer) {
            if (layer.came || size == 0 || octets.at(from) > SLICE_LIMIT) {
                return FAULT_LAYER;
            }
            layer.came = true;
            coder.begin(octets.row, from + 1, from + size);
            layer.codeCoefficients(octets.at(from), coder);
            layer.undoCoefficients();
            return 0;
        }
    }
}
