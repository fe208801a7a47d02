/** Promises 1 to 5: a new object, shape, place, paint, clear. */
final class DraftTest {
    private static final int NONE = LayeredPage.NONE;
    private static final int[] EMPTY = {80, 71, 2, 0, 0, 3, 0, 3, 0, 0, 0, 4, 0, 3, 0, 0, 0};
    private static final Check CHECK = new Check();

    public static void main(String[] args) {
        newObject();
        newDraftIsEmpty();
        shapeSides();
        shapeBitsOutside();
        shapeBases();
        shapeLimit();
        placeArguments();
        placeLimit();
        paintArguments();
        paintCells();
        paintRefusedChangesNothing();
        clearEmptiesTheDraftAlone();
        CHECK.end();
    }

    private static void newObject() {
        LayeredPage page = new LayeredPage();
        CHECK.due("new: length()", page.length(), 0);
        CHECK.due("new: octet(0)", page.octet(0), NONE);
        CHECK.due("new: pixel(0, 0)", page.pixel(0, 0), NONE);
        CHECK.due("new: inked(0, 0)", page.inked(0, 0), false);
        CHECK.due("new: cell(0, 0, 0)", page.cell(0, 0, 0), NONE);
        CHECK.due("new: coefficient(0, 0, 0)", page.coefficient(0, 0, 0), 0);
        CHECK.due("new: shapes()", page.shapes(), NONE);
        CHECK.due("new: glyph(0)", page.glyph(0), 0);
        CHECK.due("new: placings()", page.placings(), NONE);
        CHECK.due("new: decode()", page.decode(), 1);
        CHECK.due("new: shapes() after a fault", page.shapes(), NONE);
    }

    private static void newDraftIsEmpty() {
        LayeredPage page = new LayeredPage();
        page.encode(0);
        Documents.due(CHECK, "new draft", page, EMPTY);
        page.encode(10);
        CHECK.due("new draft: decode()", page.decode(), 0);
        for (int i = 0; i < 64; i++) {
            CHECK.due("new draft: cell " + i, page.cell(0, i % 8, i / 8), 0);
        }
        for (int i = 0; i < 16; i++) {
            CHECK.due("new draft: ink cell " + i, page.cell(1, i % 4, i / 4), 0);
        }
        CHECK.due("new draft: place(0, 0, 0)", page.place(0, 0, 0), NONE);
    }

    private static void shapeSides() {
        LayeredPage page = new LayeredPage();
        int[] wrong = {0, 9, -1, 16, Integer.MIN_VALUE, Integer.MAX_VALUE};
        for (int side : wrong) {
            CHECK.due("shape(0, " + side + ", 3, NONE)", page.shape(0, side, 3, NONE), NONE);
            CHECK.due("shape(0, 3, " + side + ", NONE)", page.shape(0, 3, side, NONE), NONE);
        }
        CHECK.due("shape 1 x 1", page.shape(1, 1, 1, NONE), 0);
        CHECK.due("shape 8 x 8", page.shape(-1, 8, 8, NONE), 1);
        CHECK.due("shape 8 x 1", page.shape(255, 8, 1, NONE), 2);
        CHECK.due("shape 1 x 8", page.shape(0x0101010101010101L, 1, 8, NONE), 3);
    }

    private static void shapeBitsOutside() {
        for (int i = 0; i < 64; i++) {
            boolean inside = i % 8 < 3 && i / 8 < 5;
            LayeredPage page = new LayeredPage();
            CHECK.due("shape 3 x 5 with bit " + i, page.shape(1L << i, 3, 5, NONE), inside ? 0 : NONE);
            page.encode(10);
            page.decode();
            CHECK.due("shapes() with bit " + i, page.shapes(), inside ? 1 : 0);
            CHECK.due("glyph(0) with bit " + i, page.glyph(0), inside ? 1L << i : 0);
        }
        LayeredPage page = new LayeredPage();
        CHECK.due("shape(-1, 8, 7, NONE)", page.shape(-1, 8, 7, NONE), NONE);
        CHECK.due("shape(-1, 7, 8, NONE)", page.shape(-1, 7, 8, NONE), NONE);
    }

    private static void shapeBases() {
        LayeredPage page = new LayeredPage();
        CHECK.due("base is itself", page.shape(1, 1, 1, 0), NONE);
        CHECK.due("base is -2", page.shape(1, 1, 1, -2), NONE);
        CHECK.due("no base", page.shape(1, 1, 1, NONE), 0);
        CHECK.due("base comes later", page.shape(1, 1, 1, 1), NONE);
        CHECK.due("base is earlier", page.shape(1, 1, 1, 0), 1);
        CHECK.due("base is the last", page.shape(1, 1, 1, 1), 2);
        CHECK.due("base is far off", page.shape(1, 1, 1, Integer.MAX_VALUE), NONE);
        CHECK.due("base is far below", page.shape(1, 1, 1, Integer.MIN_VALUE), NONE);
        page.encode(0);
        CHECK.due("base byte of shape 0", page.octet(5), 0);
        CHECK.due("base byte of shape 1", page.octet(13), 1);
        CHECK.due("base byte of shape 2", page.octet(21), 2);
    }

    private static void shapeLimit() {
        LayeredPage page = new LayeredPage();
        for (int k = 0; k < 8; k++) {
            CHECK.due("shape " + k, page.shape(k, 4, 1, k - 1), k);
        }
        CHECK.due("a ninth shape", page.shape(1, 1, 1, NONE), NONE);
        CHECK.due("a ninth shape with base", page.shape(1, 1, 1, 7), NONE);
        page.encode(10);
        CHECK.due("decode() of eight shapes", page.decode(), 0);
        for (int k = 0; k < 8; k++) {
            CHECK.due("glyph(" + k + ")", page.glyph(k), k);
        }
    }

    private static void placeArguments() {
        LayeredPage page = new LayeredPage();
        CHECK.due("place without shapes", page.place(0, 0, 0), NONE);
        page.shape(1, 1, 1, NONE);
        page.shape(1, 1, 1, NONE);
        int[] wrong = {-1, 16, 17, 255, Integer.MIN_VALUE, Integer.MAX_VALUE};
        for (int at : wrong) {
            CHECK.due("place(0, " + at + ", 0)", page.place(0, at, 0), NONE);
            CHECK.due("place(0, 0, " + at + ")", page.place(0, 0, at), NONE);
        }
        CHECK.due("place(-1, 0, 0)", page.place(-1, 0, 0), NONE);
        CHECK.due("place(2, 0, 0)", page.place(2, 0, 0), NONE);
        CHECK.due("place(0, 0, 0)", page.place(0, 0, 0), 1);
        CHECK.due("place(1, 15, 15)", page.place(1, 15, 15), 2);
        CHECK.due("place(1, 15, 0)", page.place(1, 15, 0), 3);
        CHECK.due("place(0, 0, 15)", page.place(0, 0, 15), 4);
        page.encode(10);
        page.decode();
        CHECK.due("placings()", page.placings(), 4);
        CHECK.due("inked(15, 0)", page.inked(15, 0), true);
        CHECK.due("inked(0, 15)", page.inked(0, 15), true);
    }

    private static void placeLimit() {
        LayeredPage page = new LayeredPage();
        page.shape(1, 1, 1, NONE);
        for (int i = 1; i <= 20; i++) {
            CHECK.due("placing " + i, page.place(0, i % 16, 3), i);
        }
        CHECK.due("placing 21", page.place(0, 9, 9), NONE);
        page.encode(10);
        page.decode();
        CHECK.due("placings() at the limit", page.placings(), 20);
        CHECK.due("inked(9, 9) by placing 21", page.inked(9, 9), false);
    }

    private static void paintArguments() {
        LayeredPage page = new LayeredPage();
        int[] layers = {-1, 2, 3, Integer.MIN_VALUE, Integer.MAX_VALUE};
        for (int layer : layers) {
            CHECK.due("paint(" + layer + ", 0, 0)", page.paint(layer, 0, 0), false);
        }
        int[] rows = {-1, 8, Integer.MIN_VALUE, Integer.MAX_VALUE};
        for (int row : rows) {
            CHECK.due("paint(0, " + row + ", 0)", page.paint(0, row, 0), false);
            CHECK.due("paint(1, " + row + ", 0)", page.paint(1, row, 0), false);
        }
        CHECK.due("paint(1, 4, 0)", page.paint(1, 4, 0), false);
        CHECK.due("paint(1, 3, 0)", page.paint(1, 3, 0), true);
        CHECK.due("paint(0, 7, 0)", page.paint(0, 7, 0), true);
        int[] octets = {63, 64, 127, 128, 192, 255};
        for (int octet : octets) {
            for (int x = 0; x < 8; x++) {
                long cells = (long) octet << (8 * x);
                CHECK.due("paint(0, 1, " + cells + ")", page.paint(0, 1, cells), octet == 63);
                CHECK.due("paint(1, 1, " + cells + ")", page.paint(1, 1, cells), octet == 63 && x < 4);
            }
        }
        CHECK.due("paint(1, 0, 1 << 32)", page.paint(1, 0, 1L << 32), false);
        CHECK.due("paint(1, 0, 1 << 56)", page.paint(1, 0, 1L << 56), false);
    }

    private static void paintCells() {
        LayeredPage page = new LayeredPage();
        for (int y = 0; y < 8; y++) {
            page.paint(0, y, 0x3F1507060504033FL + 0x0101010101010000L * y);
        }
        for (int y = 0; y < 8; y++) {
            long cells = 0x3806050403020100L + 0x0101010101010101L * (y * y % 8);
            CHECK.due("paint again " + y, page.paint(0, y, cells), true);
        }
        for (int y = 0; y < 4; y++) {
            CHECK.due("paint ink " + y, page.paint(1, y, 0x3C1E0A00L + 0x01010101L * (3 - y)), true);
        }
        page.encode(10);
        page.decode();
        int[] ground = {0, 1, 2, 3, 4, 5, 6, 56};
        int[] ink = {0, 10, 30, 60};
        for (int i = 0; i < 64; i++) {
            int y = i / 8;
            CHECK.due("painted cell " + i, page.cell(0, i % 8, y), ground[i % 8] + y * y % 8);
        }
        for (int i = 0; i < 16; i++) {
            CHECK.due("painted ink cell " + i, page.cell(1, i % 4, i / 4), ink[i % 4] + 3 - i / 4);
        }
    }

    private static void paintRefusedChangesNothing() {
        LayeredPage page = new LayeredPage();
        page.paint(0, 2, 0x0102030405060708L);
        page.paint(1, 2, 0x01020304L);
        CHECK.due("paint with a last byte too high", page.paint(0, 2, 0x4000000000000000L), false);
        CHECK.due("paint ink too wide", page.paint(1, 2, 0x0100000000L), false);
        page.encode(10);
        page.decode();
        for (int x = 0; x < 8; x++) {
            CHECK.due("cell " + x + " after a refusal", page.cell(0, x, 2), 8 - x);
            CHECK.due("ink cell " + x + " after a refusal", page.cell(1, x, 2), x < 4 ? 4 - x : NONE);
        }
    }

    private static void clearEmptiesTheDraftAlone() {
        LayeredPage page = new LayeredPage();
        page.shape(7, 3, 1, NONE);
        page.place(0, 4, 4);
        page.paint(0, 0, 0x2020202020202020L);
        page.paint(1, 1, 0x20202020L);
        int length = page.encode(10);
        page.decode();
        page.clear();
        CHECK.due("length() after clear()", page.length(), length);
        CHECK.due("octet(2) after clear()", page.octet(2), 1);
        CHECK.due("shapes() after clear()", page.shapes(), 1);
        CHECK.due("placings() after clear()", page.placings(), 1);
        CHECK.due("glyph(0) after clear()", page.glyph(0), 7);
        CHECK.due("pixel(5, 4) after clear()", page.pixel(5, 4), 32);
        CHECK.due("cell(0, 3, 0) after clear()", page.cell(0, 3, 0), 32);
        CHECK.due("place() after clear()", page.place(0, 0, 0), NONE);
        page.encode(0);
        Documents.due(CHECK, "cleared draft", page, EMPTY);
        page.encode(10);
        page.decode();
        CHECK.due("cell(0, 3, 0) of a cleared draft", page.cell(0, 3, 0), 0);
        CHECK.due("cell(1, 3, 1) of a cleared draft", page.cell(1, 3, 1), 0);
        CHECK.due("shape() after clear()", page.shape(1, 1, 1, NONE), 0);
        CHECK.due("place() of a new shape", page.place(0, 0, 0), 1);
    }
}
