/** Promises 12 to 18: pixel, inked, cell, coefficient, shapes, glyph, placings. */
final class PictureTest {
    private static final int NONE = LayeredPage.NONE;
    private static final int[] FAR = {Integer.MIN_VALUE, -17, -1, 16, 17, 256, Integer.MAX_VALUE};
    private static final Check CHECK = new Check();

    public static void main(String[] args) {
        withoutPicture();
        pixels();
        inkedPixels();
        inkedOutside();
        cellsOutside();
        cellsAreHeldIn();
        coefficientsAsRead();
        layersThatAreNotThere();
        counts();
        glyphs();
        CHECK.end();
    }

    private static void withoutPicture() {
        LayeredPage page = new LayeredPage();
        page.shape(1, 1, 1, NONE);
        page.place(0, 0, 0);
        page.paint(0, 0, 5);
        page.encode(10);
        CHECK.due("pixel(0, 0) not yet read", page.pixel(0, 0), NONE);
        CHECK.due("inked(0, 0) not yet read", page.inked(0, 0), false);
        CHECK.due("cell(0, 0, 0) not yet read", page.cell(0, 0, 0), NONE);
        CHECK.due("cell(1, 0, 0) not yet read", page.cell(1, 0, 0), NONE);
        CHECK.due("coefficient(0, 0, 0) not yet read", page.coefficient(0, 0, 0), 0);
        CHECK.due("shapes() not yet read", page.shapes(), NONE);
        CHECK.due("glyph(0) not yet read", page.glyph(0), 0);
        CHECK.due("placings() not yet read", page.placings(), NONE);
    }

    /** GROUND has 7 * y + x in its cells, INK 32 + 4 * y + x. */
    private static LayeredPage painted() {
        LayeredPage page = new LayeredPage();
        for (int y = 0; y < 8; y++) {
            long row = 0;
            for (int x = 0; x < 8; x++) {
                row |= (long) (7 * y + x) << (8 * x);
            }
            page.paint(0, y, row);
        }
        for (int y = 0; y < 4; y++) {
            page.paint(1, y, 0x23222120L + 0x04040404L * y);
        }
        return page;
    }

    private static void pixels() {
        LayeredPage page = painted();
        page.shape(0x55AA55AA55AA55AAL, 8, 8, NONE);
        page.place(0, 0, 0);
        page.place(0, 8, 0);
        page.place(0, 0, 8);
        page.place(0, 8, 8);
        page.encode(10);
        page.decode();
        for (int y = 0; y < 16; y++) {
            for (int x = 0; x < 16; x++) {
                boolean inked = (x + y) % 2 == 1;
                int want = inked ? 32 + 4 * (y / 4) + x / 4 : 7 * (y / 2) + x / 2;
                CHECK.due("pixel(" + x + ", " + y + ")", page.pixel(x, y), want);
            }
        }
        for (int far : FAR) {
            CHECK.due("pixel(" + far + ", 0)", page.pixel(far, 0), NONE);
            CHECK.due("pixel(0, " + far + ")", page.pixel(0, far), NONE);
        }
    }

    private static void inkedPixels() {
        LayeredPage page = painted();
        // an L of three bits, a full block, and a shape without a bit
        page.shape(0x0301, 2, 2, NONE);
        page.shape(-1, 8, 8, NONE);
        page.shape(0, 8, 8, NONE);
        page.place(0, 2, 5);
        page.place(1, 12, 13);
        page.place(2, 0, 0);
        page.place(0, 15, 0);
        // over the first one: a 0 of it takes no ink away
        page.place(0, 3, 6);
        page.encode(10);
        page.decode();
        for (int y = 0; y < 16; y++) {
            for (int x = 0; x < 16; x++) {
                boolean first = x == 2 && (y == 5 || y == 6) || x == 3 && y == 6;
                boolean fifth = x == 3 && (y == 6 || y == 7) || x == 4 && y == 7;
                boolean want = first || fifth || x >= 12 && y >= 13 || x == 15 && y <= 1;
                CHECK.due("inked(" + x + ", " + y + ")", page.inked(x, y), want);
            }
        }
    }

    private static void inkedOutside() {
        LayeredPage page = new LayeredPage();
        page.shape(-1, 8, 8, NONE);
        page.place(0, 0, 0);
        page.place(0, 15, 15);
        page.encode(10);
        page.decode();
        CHECK.due("inked(15, 15)", page.inked(15, 15), true);
        for (int far : FAR) {
            CHECK.due("inked(" + far + ", 0)", page.inked(far, 0), false);
            CHECK.due("inked(0, " + far + ")", page.inked(0, far), false);
            CHECK.due("inked(" + far + ", " + far + ")", page.inked(far, far), false);
        }
        CHECK.due("inked(0, 15) by what is outside", page.inked(0, 15), false);
        CHECK.due("inked(15, 0) by what is outside", page.inked(15, 0), false);
    }

    private static void cellsOutside() {
        LayeredPage page = painted();
        page.encode(10);
        page.decode();
        for (int i = 0; i < 64; i++) {
            CHECK.due("cell(0, " + i % 8 + ", " + i / 8 + ")", page.cell(0, i % 8, i / 8), 7 * (i / 8) + i % 8);
        }
        for (int i = 0; i < 16; i++) {
            CHECK.due("cell(1, " + i % 4 + ", " + i / 4 + ")", page.cell(1, i % 4, i / 4), 32 + i);
        }
        for (int far : FAR) {
            CHECK.due("cell(" + far + ", 0, 0)", page.cell(far, 0, 0), NONE);
            for (int layer = 0; layer < 2; layer++) {
                CHECK.due("cell(" + layer + ", " + far + ", 0)", page.cell(layer, far, 0), NONE);
                CHECK.due("cell(" + layer + ", 0, " + far + ")", page.cell(layer, 0, far), NONE);
                CHECK.due("coefficient far off", page.coefficient(layer, far, 0), 0);
                CHECK.due("coefficient far off", page.coefficient(layer, 0, far), 0);
            }
            CHECK.due("coefficient(" + far + ", 0, 0)", page.coefficient(far, 0, 0), 0);
        }
        CHECK.due("cell(2, 0, 0)", page.cell(2, 0, 0), NONE);
        CHECK.due("coefficient(2, 0, 0)", page.coefficient(2, 0, 0), 0);
        CHECK.due("cell(0, 8, 0)", page.cell(0, 8, 0), NONE);
        CHECK.due("cell(0, 0, 8)", page.cell(0, 0, 8), NONE);
        CHECK.due("cell(1, 4, 0)", page.cell(1, 4, 0), NONE);
        CHECK.due("cell(1, 0, 4)", page.cell(1, 0, 4), NONE);
        CHECK.due("coefficient(1, 4, 0)", page.coefficient(1, 4, 0), 0);
        CHECK.due("coefficient(1, 0, 4)", page.coefficient(1, 0, 4), 0);
        CHECK.due("coefficient(0, 8, 0)", page.coefficient(0, 8, 0), 0);
        CHECK.due("coefficient(0, 0, 8)", page.coefficient(0, 0, 8), 0);
    }

    /** One slice whose first coefficient is 512 or -512 and the others 0: all cells are above 63 or below 0. */
    private static void cellsAreHeldIn() {
        LayeredPage page = new LayeredPage();
        // 1 in context 0, then the sign in context 3: SUM is 1/2 or 3/4
        Documents.load(page, 80, 71, 4, 0, 3, 1, 128, 0, 3, 0, 3, 1, 192, 0);
        CHECK.due("decode() of high coefficients", page.decode(), 0);
        CHECK.due("coefficient(1, 0, 0)", page.coefficient(1, 0, 0), 512);
        CHECK.due("coefficient(0, 0, 0)", page.coefficient(0, 0, 0), -512);
        CHECK.due("coefficient(1, 1, 0)", page.coefficient(1, 1, 0), 0);
        for (int i = 0; i < 16; i++) {
            CHECK.due("a cell above 63", page.cell(1, i % 4, i / 4), 63);
            CHECK.due("a cell below 0", page.cell(0, i % 4, i / 4), 0);
        }
        CHECK.due("pixel(0, 0)", page.pixel(0, 0), 0);
    }

    /** Column x and row y are not to be taken for one another; a coefficient is not held in. */
    private static void coefficientsAsRead() {
        LayeredPage page = new LayeredPage();
        for (int y = 0; y < 4; y++) {
            page.paint(1, y, 0x3F003F00L);
        }
        page.encode(10);
        page.decode();
        // 0, 63, 0, 63: both d are 63, both s (126 + 2) / 4 = 32
        CHECK.due("coefficient(1, 0, 0)", page.coefficient(1, 0, 0), 32);
        CHECK.due("coefficient(1, 2, 0)", page.coefficient(1, 2, 0), 63);
        CHECK.due("coefficient(1, 3, 1)", page.coefficient(1, 3, 1), 63);
        CHECK.due("coefficient(1, 0, 2)", page.coefficient(1, 0, 2), 0);
        page.encode(5);
        page.decode();
        CHECK.due("coefficient(1, 0, 0) of five slices", page.coefficient(1, 0, 0), 32);
        CHECK.due("coefficient(1, 2, 0) of five slices", page.coefficient(1, 2, 0), 32);
        page.encode(4);
        page.decode();
        CHECK.due("coefficient(1, 2, 0) of four slices", page.coefficient(1, 2, 0), 0);
    }

    private static void layersThatAreNotThere() {
        LayeredPage page = painted();
        page.encode(10);
        page.decode();
        Documents.load(page, 80, 71, 4, 0, 3, 1, 128, 0);
        CHECK.due("decode() without GROUND", page.decode(), 0);
        CHECK.due("cell(0, 5, 5) without GROUND", page.cell(0, 5, 5), 0);
        CHECK.due("coefficient(0, 0, 0) without GROUND", page.coefficient(0, 0, 0), 0);
        CHECK.due("pixel(9, 9) without GROUND", page.pixel(9, 9), 0);
        CHECK.due("cell(1, 3, 3) without GROUND", page.cell(1, 3, 3), 63);
        Documents.load(page, 80, 71, 3, 0, 3, 1, 128, 0);
        CHECK.due("decode() without INK", page.decode(), 0);
        CHECK.due("cell(1, 3, 3) without INK", page.cell(1, 3, 3), 0);
        CHECK.due("coefficient(1, 0, 0) without INK", page.coefficient(1, 0, 0), 0);
        CHECK.due("cell(0, 7, 7) without INK", page.cell(0, 7, 7), 63);
    }

    private static void counts() {
        LayeredPage page = new LayeredPage();
        for (int n = 0; n <= 8; n++) {
            page.encode(0);
            page.decode();
            CHECK.due("shapes() of " + n, page.shapes(), n);
            CHECK.due("placings() of " + 2 * n, page.placings(), 2 * n);
            page.shape(n, 4, 2, NONE);
            CHECK.due("shapes() of a draft that grew", page.shapes(), n);
            page.place(0, n, n);
            page.place(0, n, 0);
            CHECK.due("placings() of a draft that grew", page.placings(), 2 * n);
        }
    }

    private static void glyphs() {
        LayeredPage page = new LayeredPage();
        long[] bits = {-1L, Long.MIN_VALUE, 1L, 0x8000000000000001L, 0x0102040810204080L, 0L, 0x7FFFFFFFFFFFFFFFL};
        for (int k = 0; k < bits.length; k++) {
            page.shape(bits[k], 8, 8, k - 1);
        }
        page.encode(3);
        page.decode();
        for (int k = 0; k < bits.length; k++) {
            CHECK.due("glyph(" + k + ")", page.glyph(k), bits[k]);
        }
        CHECK.due("glyph(7) of seven", page.glyph(7), 0);
        for (int far : FAR) {
            CHECK.due("glyph(" + far + ")", page.glyph(far), 0);
        }
        CHECK.due("glyph(8)", page.glyph(8), 0);
        page.clear();
        page.encode(3);
        page.decode();
        CHECK.due("glyph(0) of none", page.glyph(0), 0);
    }
}
