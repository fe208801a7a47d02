/** The boundary cases of "What it is" and of "Terms", but for codes and layers. A test has its sentence above it. */
final class TermsEdgesTest {
    private static final int NONE = LayeredPage.NONE;
    private static final int CALLS = 512;
    /** How many bytes the document of sixCalls has. */
    private static final int SIX_CALLS_LENGTH = 52;
    private static final Check CHECK = new Check();

    public static void main(String[] args) {
        theLastCallOfAnObject();
        allCallsAreDearOnes();
        laterCallsDoNotFail();
        objectsAreApart();
        pixelsAtTheEnds();
        cellsAtTheEnds();
        cellsAreNumbersUpToSixtyThree();
        sidesOfShapes();
        earlierShapesAsBases();
        chunkLengthHasTwoBytes();
        firstBytesOfAShape();
        placingInTwoBytes();
        noPictureAtFirst();
        outsideOfThePageIsLeftOut();
        oneOfSeveralPlacingsInks();
        layerNotInTheDocument();
        CHECK.end();
    }

    /** Six calls that make the answers of all questions others than those of a new object. */
    private static void sixCalls(LayeredPage page) {
        page.shape(0x0203L, 2, 2, NONE);
        page.place(0, 3, 4);
        page.paint(0, 2, 0x2121212121212121L);
        page.paint(1, 1, 0x11111111L);
        page.encode(10);
        page.decode();
    }

    // "An object is used for at most 512 calls after it has been made"
    private static void theLastCallOfAnObject() {
        last("shape", p -> p.shape(1, 1, 1, 0), 1);
        last("place", p -> p.place(0, 15, 15), 2);
        last("paint", p -> Sight.number(p.paint(1, 3, 63)), 1);
        last("encode", p -> p.encode(0), 27);
        last("length", p -> p.length(), SIX_CALLS_LENGTH);
        last("octet", p -> p.octet(1), 71);
        last("alter", p -> Sight.number(p.alter(0, 0)), 1);
        last("cut", p -> Sight.number(p.cut(0)), 1);
        last("decode", p -> p.decode(), 0);
        last("pixel", p -> p.pixel(4, 4), 0x11);
        last("inked", p -> Sight.number(p.inked(3, 4)), 1);
        last("cell", p -> p.cell(0, 7, 2), 0x21);
        last("coefficient", p -> p.coefficient(1, 0, 0), 7);
        last("shapes", p -> p.shapes(), 1);
        last("glyph", p -> p.glyph(0), 0x0203);
        last("placings", p -> p.placings(), 1);
    }

    private static void last(String name, Sight.Question question, long want) {
        LayeredPage page = new LayeredPage();
        sixCalls(page);
        for (int call = 7; call < CALLS; call++) {
            page.octet(call);
        }
        CHECK.due(name + " as the last call", question.of(page), want);
    }

    private static void allCallsAreDearOnes() {
        LayeredPage page = new LayeredPage();
        sixCalls(page);
        for (int call = 7; call < CALLS; call += 2) {
            CHECK.due("encode(10), call " + call, page.encode(10), SIX_CALLS_LENGTH);
            CHECK.due("decode() behind it", page.decode(), 0);
        }
    }

    // "what later calls answer is free"; but LANGUAGE.md lets no call ever fail
    private static void laterCallsDoNotFail() {
        int[] ends = {Integer.MIN_VALUE, -1, 0, 1, 7, 8, 15, 16, 255, 256, 1199, 1200, Integer.MAX_VALUE};
        LayeredPage page = new LayeredPage();
        int rounds = 0;
        for (int i = 0; i < 6000; i++) {
            int a = ends[i % 13];
            int b = ends[i / 13 % 13];
            page.shape(i % 2 - 1L, a, b, i % 11 - 2);
            page.place(i % 10 - 1, a, b);
            page.paint(i % 4 - 1, a, i * 0x0101010101010101L);
            page.encode(i % 13 - 1);
            page.alter(page.length(), i % 256);
            page.alter(a, b);
            page.decode();
            page.cut(i % 5 == 0 ? a : b);
            page.pixel(a, b);
            page.inked(a, b);
            page.cell(i % 4 - 1, a, b);
            page.coefficient(i % 4 - 1, a, b);
            page.glyph(a);
            page.octet(a);
            if (i % 50 == 0) {
                page.clear();
            }
            rounds++;
        }
        CHECK.due("rounds of calls that did not fail", rounds, 6000);
    }

    private static void objectsAreApart() {
        LayeredPage other = new LayeredPage();
        sixCalls(other);
        new Sight(Scenes::nothing).unchanged(CHECK, "calls on another object", p -> {
            sixCalls(new LayeredPage());
            return 0;
        }, 0);
        CHECK.due("glyph(0) of the other object", other.glyph(0), 0x0203);
    }

    // "A PAGE has 16 times 16 PIXELS (x, y), x and y from 0 to 15, y from the top."
    private static void pixelsAtTheEnds() {
        LayeredPage page = new LayeredPage();
        page.shape(1, 1, 1, NONE);
        page.paint(0, 0, 0x0200000000000001L);
        page.paint(0, 7, 0x0400000000000003L);
        page.paint(1, 0, 0x0B00000AL);
        page.paint(1, 3, 0x0D00000CL);
        page.place(0, 0, 0);
        page.place(0, 15, 0);
        page.place(0, 0, 15);
        page.place(0, 15, 15);
        page.encode(10);
        page.decode();
        int[] ends = {0, 0, 10, 15, 0, 11, 0, 15, 12, 15, 15, 13, 1, 0, 1, 14, 0, 2, 0, 14, 3, 14, 15, 4};
        for (int i = 0; i < ends.length; i += 3) {
            String at = "(" + ends[i] + ", " + ends[i + 1] + ")";
            CHECK.due("pixel" + at, page.pixel(ends[i], ends[i + 1]), ends[i + 2]);
            CHECK.due("inked" + at, page.inked(ends[i], ends[i + 1]), i < 12);
        }
        int inked = 0;
        for (int i = 0; i < 256; i++) {
            inked += page.inked(i % 16, i / 16) ? 1 : 0;
        }
        CHECK.due("inked pixels", inked, 4);
    }

    // "The layer 0, GROUND, has 8 times 8 CELLS, the layer 1, INK, 4 times 4"
    private static void cellsAtTheEnds() {
        for (int layer = 0; layer < 2; layer++) {
            int last = layer == 0 ? 7 : 3;
            LayeredPage page = new LayeredPage();
            page.paint(layer, 0, 21 | 22L << (8 * last));
            page.paint(layer, last, 23 | 24L << (8 * last));
            page.encode(10);
            page.decode();
            CHECK.due("cell(" + layer + ", 0, 0)", page.cell(layer, 0, 0), 21);
            CHECK.due("cell(" + layer + ", last, 0)", page.cell(layer, last, 0), 22);
            CHECK.due("cell(" + layer + ", 0, last)", page.cell(layer, 0, last), 23);
            CHECK.due("cell(" + layer + ", last, last)", page.cell(layer, last, last), 24);
            CHECK.due("a cell of the other layer", page.cell(1 - layer, 0, 0), 0);
        }
    }

    // "a cell is a number 0 .. 63"
    private static void cellsAreNumbersUpToSixtyThree() {
        for (int value = 0; value <= 63; value++) {
            LayeredPage page = new LayeredPage();
            page.paint(0, 4, (long) value << 24);
            page.paint(1, 2, (long) value << 8);
            page.encode(10);
            page.decode();
            CHECK.due("cell(0, 3, 4) of " + value, page.cell(0, 3, 4), value);
            CHECK.due("cell(1, 1, 2) of " + value, page.cell(1, 1, 2), value);
        }
    }

    /** The bits of a shape without a 0. */
    private static long block(int w, int h) {
        long bits = 0;
        for (int i = 0; i < 64; i++) {
            bits |= i % 8 < w && i / 8 < h ? 1L << i : 0;
        }
        return bits;
    }

    // "A SHAPE is w wide and h high, both 1 .. 8, and has w * h bits"
    private static void sidesOfShapes() {
        for (int w = 1; w <= 8; w++) {
            for (int h = 1; h <= 8; h++) {
                long bits = block(w, h);
                LayeredPage page = new LayeredPage();
                String name = w + " wide, " + h + " high";
                CHECK.due("shape " + name, page.shape(bits, w, h, NONE), 0);
                CHECK.due("base " + name, page.shape(bits, w, h, 0), 1);
                page.place(1, 0, 0);
                page.encode(0);
                CHECK.due("second byte of " + name, page.octet(6), 16 * (w - 1) + h - 1);
                page.decode();
                CHECK.due("glyph(0) " + name, page.glyph(0), bits);
                CHECK.due("glyph(1) " + name, page.glyph(1), bits);
                CHECK.due("its last pixel " + name, page.inked(w - 1, h - 1), true);
                CHECK.due("right of " + name, page.inked(w, h - 1), false);
                CHECK.due("below " + name, page.inked(w - 1, h), false);
            }
        }
    }

    // "each of which may have a BASE, an earlier shape": each earlier one, and one may be the base of several
    private static void earlierShapesAsBases() {
        for (int k = 1; k < 8; k++) {
            for (int base = NONE; base < k; base++) {
                LayeredPage page = new LayeredPage();
                for (int i = 0; i < k; i++) {
                    page.shape(0x0100L + i % 4, 2, 2, i % 2 - 1);
                }
                CHECK.due("shape " + k + " with base " + base, page.shape(0x0302, 2, 2, base), k);
                page.encode(0);
                CHECK.due("its first byte", page.octet(5 + 8 * k), base + 1);
                CHECK.due("decode() of it", page.decode(), 0);
                CHECK.due("glyph of it", page.glyph(k), 0x0302);
            }
        }
    }

    // "a LENGTH in two bytes, the high one first"
    private static void chunkLengthHasTwoBytes() {
        LayeredPage page = new LayeredPage();
        Documents.load(page, Documents.join(Documents.bytes(80, 71, 4, 1, 2, 1, 128), new int[256]));
        CHECK.due("decode() of a LENGTH of 258", page.decode(), 0);
        CHECK.due("coefficient(1, 0, 0) of it", page.coefficient(1, 0, 0), 512);
        page.alter(3, 2);
        page.alter(4, 1);
        CHECK.due("decode() of a LENGTH of 513", page.decode(), 2);
    }

    // "Kind 1, a shape: 0, or its base's number plus 1; 16 * (w - 1) + h - 1"
    private static void firstBytesOfAShape() {
        for (int octet = 0; octet < 256; octet++) {
            int w = octet / 16 + 1;
            int h = octet % 16 + 1;
            LayeredPage page = new LayeredPage();
            // The code is as high as can be, so that every bit of it is 1.
            Documents.load(page, 80, 71, 1, 0, 10, 0, octet, 255, 255, 255, 255, 255, 255, 255, 255);
            CHECK.due("decode() of a second byte " + octet, page.decode(), w > 8 || h > 8 ? 4 : 0);
            CHECK.due("glyph(0) of it", page.glyph(0), w > 8 || h > 8 ? 0 : block(w, h));
        }
    }

    // "Kind 2, placings, two bytes each: the shape's number; 16 * x + y."
    private static void placingInTwoBytes() {
        int[] spots = {0x00, 0x0F, 0xF0, 0xFF, 0x7B};
        LayeredPage page = new LayeredPage();
        for (int spot : spots) {
            Documents.load(page, 80, 71, 1, 0, 3, 0, 0, 128, 2, 0, 2, 0, spot);
            page.decode();
            for (int corner : spots) {
                CHECK.due("placing " + spot + " at " + corner, page.inked(corner / 16, corner % 16), spot == corner);
            }
        }
    }

    // "THE PICTURE is what was read last. At first there is none."
    private static void noPictureAtFirst() {
        LayeredPage page = new LayeredPage();
        CHECK.due("shapes() at first", page.shapes(), NONE);
        page.shape(1, 1, 1, NONE);
        page.encode(10);
        CHECK.due("shapes() of what was only written", page.shapes(), NONE);
        page.decode();
        page.shape(1, 1, 1, NONE);
        page.encode(10);
        CHECK.due("shapes() of what was read last", page.shapes(), 1);
        page.decode();
        CHECK.due("shapes() of what was read now", page.shapes(), 2);
    }

    // "(what would be outside of the page is left out)"
    private static void outsideOfThePageIsLeftOut() {
        int[] spots = {8, 8, 9, 9, 15, 15, 15, 0, 0, 15, 9, 3, 3, 9, 12, 15};
        for (int i = 0; i < spots.length; i += 2) {
            LayeredPage page = new LayeredPage();
            page.shape(-1, 8, 8, NONE);
            page.place(0, spots[i], spots[i + 1]);
            page.encode(0);
            page.decode();
            for (int k = 0; k < 256; k++) {
                int dx = k % 16 - spots[i];
                int dy = k / 16 - spots[i + 1];
                boolean want = dx >= 0 && dx < 8 && dy >= 0 && dy < 8;
                String pixel = "inked(" + k % 16 + ", " + k / 16 + ")";
                CHECK.due(pixel + " by a block at " + spots[i] + ", " + spots[i + 1], page.inked(k % 16, k / 16), want);
            }
        }
    }

    // "A pixel is INKED when a placing puts a bit 1 of its shape there": the first of 20 or the last
    private static void oneOfSeveralPlacingsInks() {
        for (int which = 0; which < 20; which++) {
            LayeredPage page = new LayeredPage();
            page.shape(0, 8, 8, NONE);
            page.shape(1, 1, 1, NONE);
            for (int i = 0; i < 20; i++) {
                page.place(i == which ? 1 : 0, 5, 5);
            }
            page.encode(0);
            page.decode();
            CHECK.due("inked(5, 5) by placing " + which, page.inked(5, 5), true);
            CHECK.due("inked(6, 5) by none", page.inked(6, 5), false);
        }
    }

    // "a layer that is not in the document has coefficients 0", whatever it had before
    private static void layerNotInTheDocument() {
        for (int layer = 0; layer < 2; layer++) {
            LayeredPage page = new LayeredPage();
            Documents.load(page, 80, 71, 3, 0, 3, 1, 128, 0, 4, 0, 3, 1, 128, 0);
            page.decode();
            CHECK.due("coefficient() of a layer that is there", page.coefficient(layer, 0, 0), 512);
            page.decode();
            Documents.load(page, 80, 71, 4 - layer, 0, 3, 1, 128, 0);
            CHECK.due("decode() without layer " + layer, page.decode(), 0);
            CHECK.due("coefficient of the other", page.coefficient(1 - layer, 0, 0), 512);
            for (int i = 0; i < 64; i++) {
                int side = layer == 0 ? 8 : 4;
                boolean there = i < side * side;
                CHECK.due("coefficient " + i, page.coefficient(layer, i % side, i / side), 0);
                CHECK.due("cell " + i, page.cell(layer, i % side, i / side), there ? 0 : NONE);
            }
        }
    }
}
