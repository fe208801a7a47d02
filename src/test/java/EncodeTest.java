/** Promise 6: encode, and with it codes, shapes' codes, lifting and layers' codes. */
final class EncodeTest {
    private static final int NONE = LayeredPage.NONE;
    private static final int[] START = {80, 71};
    private static final int[] NO_PLACINGS = {2, 0, 0};
    private static final int[] NO_SLICES = {3, 0, 3, 0, 0, 0, 4, 0, 3, 0, 0, 0};
    private static final Check CHECK = new Check();

    public static void main(String[] args) {
        slicesOutside();
        shapesByHand();
        placingsInOrder();
        layersByHand();
        slicesOfAnEvenGround();
        liftingRoundsDown();
        extremeDraftsComeBack();
        documentsOfTheReference();
        CHECK.end();
    }

    private static void slicesOutside() {
        LayeredPage page = new LayeredPage();
        int[] wrong = {-1, 11, Integer.MIN_VALUE, Integer.MAX_VALUE};
        for (int slices : wrong) {
            CHECK.due("encode(" + slices + ")", page.encode(slices), NONE);
            CHECK.due("length() after it", page.length(), 0);
        }
        CHECK.due("encode(0)", page.encode(0), 17);
        CHECK.due("encode(10)", page.encode(10), 25);
        page.alter(25, 9);
        CHECK.due("encode(11) over a document", page.encode(11), NONE);
        CHECK.due("length() after it", page.length(), 26);
        CHECK.due("octet(25) after it", page.octet(25), 9);
        page.cut(1);
        CHECK.due("encode(0) over a short document", page.encode(0), 17);
        Documents.due(CHECK, "no draft", page, Documents.join(START, NO_PLACINGS, NO_SLICES));
    }

    private static void shapeByHand(String name, long bits, int w, int h, int... chunk) {
        LayeredPage page = new LayeredPage();
        CHECK.due(name, page.shape(bits, w, h, NONE), 0);
        page.encode(0);
        Documents.due(CHECK, name, page, Documents.join(START, chunk, NO_PLACINGS, NO_SLICES));
    }

    private static void shapesByHand() {
        shapeByHand("one bit 0", 0, 1, 1, 1, 0, 5, 0, 0, 0, 0, 0);
        // 32768 / 2^16, and one digit more than two bytes hold
        shapeByHand("one bit 1", 1, 1, 1, 1, 0, 5, 0, 0, 128, 0, 0);
        // the second bit is in context 1, which is new
        shapeByHand("two bits 1 in a row", 3, 2, 1, 1, 0, 5, 0, 16, 192, 0, 0);
        // the second bit is in context 0 again: 65536 * 2 / 3 = 43690, of 2^17
        shapeByHand("0 above 1", 0x100, 1, 2, 1, 0, 5, 0, 1, 0x55, 0x55, 0);
        // the second bit is in context 4, which is new
        shapeByHand("1 above 1", 0x101, 1, 2, 1, 0, 5, 0, 1, 192, 0, 0);

        LayeredPage page = new LayeredPage();
        page.shape(1, 1, 1, NONE);
        page.shape(0, 1, 2, 0);
        page.shape(1, 2, 1, 1);
        page.encode(0);
        Documents.due(CHECK, "shapes with bases", page, Documents.join(START,
                Documents.bytes(1, 0, 5, 0, 0, 128, 0, 0),
                // the first bit has the base's 1 at p, the second has none: contexts 20 and 16
                Documents.bytes(1, 0, 5, 1, 1, 0, 0, 0),
                // contexts 16 and 17
                Documents.bytes(1, 0, 5, 2, 16, 128, 0, 0),
                NO_PLACINGS, NO_SLICES));
    }

    private static void placingsInOrder() {
        LayeredPage page = new LayeredPage();
        page.shape(1, 1, 1, NONE);
        page.shape(0, 1, 1, NONE);
        page.place(1, 3, 4);
        page.place(0, 15, 0);
        page.place(1, 0, 15);
        page.encode(0);
        Documents.due(CHECK, "placings", page, Documents.join(START,
                Documents.bytes(1, 0, 5, 0, 0, 128, 0, 0, 1, 0, 5, 0, 0, 0, 0, 0),
                Documents.bytes(2, 0, 6, 1, 0x34, 0, 0xF0, 1, 0x0F),
                NO_SLICES));
    }

    private static void layersByHand() {
        LayeredPage page = new LayeredPage();
        page.encode(1);
        // 64 and 16 zeros in context 0: SUM stays 0; the digits are as many as the doublings and 16
        Documents.due(CHECK, "one slice", page, Documents.join(START, NO_PLACINGS,
                Documents.bytes(3, 0, 4, 1, 0, 0, 0, 4, 0, 4, 1, 0, 0, 0)));
    }

    private static void slicesOfAnEvenGround() {
        int[] left = {0, 0, 0, 0, 0, 32, 48, 56, 60, 62, 63};
        for (int slices = 0; slices <= 10; slices++) {
            LayeredPage page = new LayeredPage();
            for (int y = 0; y < 8; y++) {
                page.paint(0, y, 0x3F3F3F3F3F3F3F3FL);
            }
            for (int y = 0; y < 4; y++) {
                page.paint(1, y, 0x3F3F3F3FL);
            }
            page.encode(slices);
            CHECK.due("decode() of " + slices + " slices", page.decode(), 0);
            CHECK.due("slices in the document", page.octet(8), slices);
            for (int layer = 0; layer < 2; layer++) {
                CHECK.due(slices + " slices: coefficient", page.coefficient(layer, 0, 0), left[slices]);
                CHECK.due(slices + " slices: another", page.coefficient(layer, 1, 0), 0);
                CHECK.due(slices + " slices: first cell", page.cell(layer, 0, 0), left[slices]);
                CHECK.due(slices + " slices: a cell", page.cell(layer, 3, 3), left[slices]);
            }
        }
    }

    private static void liftingRoundsDown() {
        LayeredPage page = new LayeredPage();
        for (int y = 0; y < 4; y++) {
            // 20, 0, 20, 0: both d are -20, both s 20 + (-38) / 4 = 10
            page.paint(1, y, 0x00140014L);
        }
        page.encode(10);
        page.decode();
        int[] rows = {10, 0, -20, -20, 0, 0, -20, -20, 0, 0, 0, 0, 0, 0, 0, 0};
        for (int i = 0; i < 16; i++) {
            CHECK.due("lifted coefficient " + i, page.coefficient(1, i % 4, i / 4), rows[i]);
        }
        page.paint(1, 0, 0x14001400L);
        page.paint(1, 1, 0x14001400L);
        page.paint(1, 2, 0x14001400L);
        page.paint(1, 3, 0x14001400L);
        page.encode(10);
        page.decode();
        int[] other = {10, 0, 20, 20, 0, 0, 20, 20, 0, 0, 0, 0, 0, 0, 0, 0};
        for (int i = 0; i < 16; i++) {
            CHECK.due("other coefficient " + i, page.coefficient(1, i % 4, i / 4), other[i]);
        }
    }

    /** All that a draft can hold, thrown or striped: with ten slices nothing is lost. */
    private static void extremeDraftsComeBack() {
        for (int style = 0; style < 40; style++) {
            Dice dice = new Dice(style);
            LayeredPage page = new LayeredPage();
            long[] glyphs = new long[8];
            long[] rows = new long[12];
            for (int k = 0; k < 8; k++) {
                glyphs[k] = style % 4 == 0 ? 0x55AA55AA55AA55AAL : style % 4 == 1 ? -1L : dice.bits();
                CHECK.due("full shape", page.shape(glyphs[k], 8, 8, style % 3 == 0 ? NONE : k - 1), k);
            }
            for (int i = 0; i < 20; i++) {
                page.place(i % 8, dice.below(16), dice.below(16));
            }
            for (int y = 0; y < 12; y++) {
                long ends = dice.bits() & 0x0101010101010101L;
                rows[y] = style % 2 == 0 ? ends * 63 : dice.bits() & 0x3F3F3F3F3F3F3F3FL;
                rows[y] = y < 8 ? rows[y] : rows[y] & 0x3F3F3F3FL;
                CHECK.due("full row", page.paint(y / 8, y % 8, rows[y]), true);
            }
            int length = page.encode(10);
            CHECK.due("a full document of " + length, length > 0 && length <= 1200, true);
            CHECK.due("length()", page.length(), length);
            CHECK.due("decode() of a full document", page.decode(), 0);
            for (int k = 0; k < 8; k++) {
                CHECK.due("glyph(" + k + ")", page.glyph(k), glyphs[k]);
            }
            for (int i = 0; i < 64; i++) {
                CHECK.due("cell " + i, page.cell(0, i % 8, i / 8), rows[i / 8] >>> (8 * (i % 8)) & 63);
            }
            for (int i = 0; i < 16; i++) {
                CHECK.due("ink cell " + i, page.cell(1, i % 4, i / 4), rows[8 + i / 4] >>> (8 * (i % 4)) & 63);
            }
        }
    }

    /** Every byte of whole documents, with every number of slices. */
    private static void documentsOfTheReference() {
        for (int run = 0; run < 220 && !CHECK.failed(); run++) {
            Dice dice = new Dice(1000 + run);
            LayeredPage page = new LayeredPage();
            Reference reference = new Reference();
            int shapes = dice.below(9);
            for (int k = 0; k < shapes; k++) {
                int w = dice.between(1, 8);
                int h = dice.between(1, 8);
                long bits = 0;
                for (int i = 0; i < 64; i++) {
                    bits |= i % 8 < w && i / 8 < h && dice.below(10) <= run % 10 ? 1L << i : 0;
                }
                int base = k == 0 || dice.once(3) ? NONE : dice.below(k);
                CHECK.due("shape", page.shape(bits, w, h, base), reference.shape(bits, w, h, base));
            }
            for (int y = 0; y < 12; y++) {
                long cells = dice.bits() & (run % 3 == 0 ? 0x0707070707070707L : 0x3F3F3F3F3F3F3F3FL);
                cells = y < 8 ? cells : cells & 0xFFFFFFFFL;
                CHECK.due("paint", page.paint(y / 8, y % 8, cells), reference.paint(y / 8, y % 8, cells));
            }
            int slices = run % 11;
            CHECK.due("encode(" + slices + ")", page.encode(slices), reference.encode(slices));
            for (int k = 0; k < reference.length(); k++) {
                CHECK.due("run " + run + ", octet(" + k + ")", page.octet(k), reference.octet(k));
            }
        }
    }
}
