/** The boundary cases of codes and of shapes' codes in "Terms". A test has its sentence above it. */
final class CodesEdgesTest {
    private static final int NONE = LayeredPage.NONE;
    private static final int[] START = {80, 71};
    /** The chunks behind the shapes of a draft without placings, written with no slices. */
    private static final int[] REST = {2, 0, 0, 3, 0, 3, 0, 0, 0, 4, 0, 3, 0, 0, 0};
    private static final Check CHECK = new Check();

    public static void main(String[] args) {
        countsBeginAnew();
        countsAreHalvedAtThirtyTwo();
        widthIsDoubledAtHalf();
        digitsMakeWholeBytes();
        carryThroughWholeBytes();
        zerosBehindACode();
        valueThatIsJustEnough();
        highestCode();
        bytesThatAreNotNeeded();
        outsideOfAShapeAtTheLeft();
        outsideOfAShapeAtTheRight();
        outsideOfAShapeAbove();
        outsideOfABase();
        baseIsLargerThanTheShape();
        CHECK.end();
    }

    /** The draft's only shape has this code, and is read from it again. */
    private static void code(String name, long bits, int w, int h, int... code) {
        LayeredPage page = new LayeredPage();
        CHECK.due(name, page.shape(bits, w, h, NONE), 0);
        page.encode(0);
        int[] shape = Documents.chunk(1, Documents.bytes(0, 16 * (w - 1) + h - 1), code);
        Documents.due(CHECK, name, page, Documents.join(START, shape, REST));
        page.decode();
        CHECK.due(name + ": glyph(0)", page.glyph(0), bits);
    }

    /**
     * A shape with a base has these contexts; its bits are all 0 but the last, a 1. The sides are told as in a
     * document, 16 * (w - 1) + h - 1.
     */
    private static void contextsWithBase(String name, long base, int baseSides, int sides, int... contexts) {
        LayeredPage page = new LayeredPage();
        int w = sides / 16 + 1;
        int h = sides % 16 + 1;
        page.shape(base, baseSides / 16 + 1, baseSides % 16 + 1, NONE);
        CHECK.due(name, page.shape(lastBit(w, h), w, h, 0), 1);
        page.encode(0);
        int head = 5 + page.octet(4);
        int[] code = Reference.code(pairs(contexts, contexts.length - 1));
        CHECK.due(name + ": LENGTH", page.octet(head + 2), 2 + code.length);
        for (int k = 0; k < code.length; k++) {
            CHECK.due(name + ": byte " + k, page.octet(head + 5 + k), code[k]);
        }
        page.decode();
        CHECK.due(name + ": glyph(1)", page.glyph(1), lastBit(w, h));
    }

    private static long lastBit(int w, int h) {
        return 1L << (8 * (h - 1) + w - 1);
    }

    /** Contexts with their bits, which are all 0 but the one at this place. */
    private static int[] pairs(int[] contexts, int one) {
        int[] pairs = new int[2 * contexts.length];
        for (int i = 0; i < contexts.length; i++) {
            pairs[2 * i] = contexts[i];
            pairs[2 * i + 1] = i == one ? 1 : 0;
        }
        return pairs;
    }

    /** Reads one shape from a code, in a document where bytes 255 follow it. */
    private static void read(String name, int sides, long glyph, int... code) {
        LayeredPage page = new LayeredPage();
        int[] shape = Documents.chunk(1, Documents.bytes(0, sides), code);
        Documents.load(page, Documents.join(START, shape, Documents.bytes(1, 0, 4, 0, 0, 255, 255)));
        CHECK.due(name + ": decode()", page.decode(), 0);
        CHECK.due(name + ": glyph(0)", page.glyph(0), glyph);
        CHECK.due(name + ": glyph(1)", page.glyph(1), 1);
    }

    // "Every context has two counts, of zeros and of ones, both 1 at the beginning of each code."
    private static void countsBeginAnew() {
        LayeredPage page = new LayeredPage();
        for (int k = 0; k < 8; k++) {
            page.shape(0x0105, 3, 2, NONE);
        }
        int length = page.encode(10);
        long[] first = Sight.document(page);
        int size = 5 + (page.octet(4) - 2);
        for (int k = 0; k < 8 * size; k++) {
            CHECK.due("byte " + k + " of eight equal shapes", page.octet(2 + k), page.octet(2 + k % size));
        }
        CHECK.due("encode(10) again", page.encode(10), length);
        CHECK.due("document of encode(10) again", Sight.document(page), first);
    }

    // "if z + o is 32 now, z becomes (z + 1) / 2 and o becomes (o + 1) / 2": after 30 bits in one context
    private static void countsAreHalvedAtThirtyTwo() {
        // S is 34942 * 30 / 31 for the 1
        code("29 zeros and a one", 1L << 29, 8, 4, 8, 65, 96, 0);
        // S is 33814 * 16 / 17 for the 1, where the counts 31 and 1 were halved
        code("30 zeros and a one", 1L << 30, 8, 4, 7, 197, 0, 0);
        // S is 63648 * 17 / 18
        code("31 zeros and a one", 1L << 31, 8, 4, 7, 86, 128, 0);
    }

    // "as long as WIDTH is 32768 or less, it is doubled, and SCALE grows by 1"
    private static void widthIsDoubledAtHalf() {
        // WIDTH is 32768 behind the only bit: there are 17 digits, and three bytes
        code("one bit 0", 0, 1, 1, 0, 0, 0);
        code("one bit 1", 1, 1, 1, 128, 0, 0);
        // WIDTH is 43691 - 43691 / 4 = 32769 behind the first row, and is not doubled
        code("a WIDTH of 32769", 0x1030F, 4, 3, 248, 113, 168, 0);
    }

    // "the first 16 + SCALE binary digits of SUM behind the point, with as many zeros behind them as make whole bytes"
    private static void digitsMakeWholeBytes() {
        LayeredPage page = new LayeredPage();
        page.encode(0);
        // 16 digits of no bit at all
        CHECK.due("LENGTH of a layer without slices", page.octet(7), 3);
        // each of the eight bits is in a new context, and halves WIDTH: 24 digits
        code("24 digits", 0x3020301, 2, 4, 183, 0, 0);
        code("25 digits", 0x101, 2, 4, 160, 0, 0, 0);
    }

    // "a bit 1 adds S / 2^(16 + SCALE), as a fraction, to SUM": three bytes 255 become 0 by it, and the fourth grows
    private static void carryThroughWholeBytes() {
        long bits = 0x81A400000AL;
        int[] contexts = contextsOf(bits, 8, 5);
        int[] pairs = new int[80];
        for (int i = 0; i < 40; i++) {
            pairs[2 * i] = contexts[i];
            pairs[2 * i + 1] = (int) (bits >>> i & 1);
        }
        code("a long carry", bits, 8, 5, Reference.code(pairs));
    }

    /** The contexts of a shape without a base, by a frame of zeros around it. */
    private static int[] contextsOf(long bits, int w, int h) {
        int[][] framed = new int[h + 1][w + 2];
        int[] contexts = new int[w * h];
        for (int i = 0; i < w * h; i++) {
            int x = i % w + 1;
            int y = i / w + 1;
            contexts[i] = framed[y][x - 1] + 2 * framed[y - 1][x - 1] + 4 * framed[y - 1][x] + 8 * framed[y - 1][x + 1];
            framed[y][x] = (int) (bits >>> (8 * (y - 1) + x - 1) & 1);
        }
        return contexts;
    }

    // "let VALUE be the fraction whose binary digits are the bits of these bytes, and zeros behind them without end"
    private static void zerosBehindACode() {
        read("no bytes", 0x77, 0);
        read("a byte 0", 0x77, 0, 0);
        read("half a byte of a one", 0x00, 1, 128);
        read("two ones of one byte", 0x10, 3, 192);
        // of the digits 0101010101010101 0 the second byte is cut off
        read("the zero above a zero", 0x01, 0, 0x55);
        read("the zero above a one", 0x01, 0x100, 0x56);
    }

    // "A bit that is read in a context is 1 if VALUE - SUM is at least S / 2^(16 + SCALE), else 0."
    private static void valueThatIsJustEnough() {
        read("just a half", 0x00, 1, 128, 0, 0);
        read("next to a half", 0x00, 0, 127, 255, 255, 255, 255);
        read("just three quarters", 0x10, 3, 192, 0, 0);
        read("next to three quarters", 0x10, 1, 191, 255, 255, 255, 255);
        // S is 65536 * 2 / 3 = 43690 of 2^17
        read("just a third", 0x01, 0x100, 0x55, 0x55, 0);
        read("next to a third", 0x01, 0, 0x55, 0x54, 255, 255, 255);
    }

    // "A code, that is any bytes, is READ in the same way"
    private static void highestCode() {
        int[] high = Documents.repeated(12, 255);
        read("the highest 1 x 1", 0x00, 1, high);
        read("the highest 8 x 8", 0x77, -1, high);
        read("the highest 8 x 1", 0x70, 0xFF, high);
        read("the highest 1 x 8", 0x07, 0x0101010101010101L, high);
    }

    // "A code, that is any bytes": more of them than its bits need, too
    private static void bytesThatAreNotNeeded() {
        read("two bytes more", 0x00, 1, 128, 0, 0, 255, 255);
        int[] more = Documents.repeated(50, 255);
        read("many bytes more", 0x13, 0x3020301, Documents.join(Documents.bytes(183, 0, 0), more));
    }

    // "outside of it its bits count as 0": l and a of the first of a row are not the last of a row above
    private static void outsideOfAShapeAtTheLeft() {
        int[] contexts = {0, 0, 0, 0, 0, 0, 0, 0, 0, 0, 0, 0, 0, 0, 8, 4};
        code("the last of the first row", 0x80, 8, 2, Reference.code(pairs(contexts, 7)));
        int[] below = {0, 0, 0, 0, 0, 0, 0, 0, 0, 0, 0, 0, 0, 0, 8, 4, 0, 0, 0, 0, 0, 0, 0, 0};
        code("the last of the first row of three", 0x80, 8, 3, Reference.code(pairs(below, 7)));
    }

    // "outside of it its bits count as 0": b of the last of a row is not the first of the row itself
    private static void outsideOfAShapeAtTheRight() {
        int[] contexts = {0, 0, 0, 0, 0, 0, 0, 0, 0, 1, 0, 0, 0, 0, 0, 0};
        code("the first of the second row", 0x100, 8, 2, Reference.code(pairs(contexts, 8)));
        int[] narrow = {0, 0, 0, 0, 1, 0};
        code("the first of the second row of three", 0x100, 3, 2, Reference.code(pairs(narrow, 3)));
    }

    // "outside of it its bits count as 0": a, u and b of the first row are not those of the last row
    private static void outsideOfAShapeAbove() {
        code("the last of all", 1L << 63, 8, 8, Reference.code(pairs(new int[64], 63)));
        code("the last of a column", 1L << 56, 1, 8, Reference.code(pairs(new int[8], 7)));
        int[] second = new int[64];
        second[57] = 1;
        code("the first of the last row", 1L << 56, 8, 8, Reference.code(pairs(second, 56)));
    }

    // "outside of it its bits count as 0", of a base too
    private static void outsideOfABase() {
        contextsWithBase("a base of one bit", 1, 0x00, 0x11, 20, 16, 16, 16);
        contextsWithBase("q is not the first of the next row", 0x100, 0x71, 0x71,
                32, 16, 16, 16, 16, 16, 16, 16, 20, 16, 16, 16, 16, 16, 16, 16);
        contextsWithBase("r is not the first row", 1, 0x07, 0x07, 20, 16, 16, 16, 16, 16, 16, 16);
        contextsWithBase("q is outside at the end of a full row", 0xFF, 0x77, 0x71,
                28, 28, 28, 28, 28, 28, 28, 20, 16, 16, 16, 16, 16, 16, 16, 16);
        contextsWithBase("a narrow base of all bits", 0x0101, 0x01, 0x21,
                36, 16, 16, 20, 16, 16);
    }

    // "With a base, whose bits at (x, y), (x + 1, y), (x, y + 1) are p, q, r": its own bits, not the shape's sides
    private static void baseIsLargerThanTheShape() {
        contextsWithBase("q is right of the shape", 0x070707, 0x22, 0x10, 44, 44);
        contextsWithBase("r is below the shape", 0x010101, 0x02, 0x01, 36, 36);
        contextsWithBase("a full base", -1, 0x77, 0x00, 44);
        contextsWithBase("a full base of a block", -1, 0x77, 0x11, 44, 44, 44, 44);
    }
}
