/** Promise 11: decode. */
final class DecodeTest {
    private static final int NONE = LayeredPage.NONE;
    private static final int[] START = {80, 71};
    private static final int[] SHAPE = {1, 0, 5, 0, 0, 128, 0, 0};
    private static final int[] NO_PLACINGS = {2, 0, 0};
    private static final int[] PLACING = {2, 0, 2, 0, 0};
    private static final Check CHECK = new Check();

    public static void main(String[] args) {
        documentByHand();
        faultLeavesThePicture();
        codesThatEnd();
        everyCutOfADocument();
        CHECK.end();
    }

    private static void documentByHand() {
        LayeredPage page = new LayeredPage();
        Documents.load(page, Documents.join(START,
                // INK first: one slice, whose first coefficient is 512
                Documents.bytes(4, 0, 2, 1, 128),
                SHAPE, PLACING,
                // two bits 1 beside one another, with the base 0
                Documents.bytes(1, 0, 3, 1, 0x10, 192),
                Documents.bytes(2, 0, 4, 1, 0x53, 0, 0xFF)));
        CHECK.due("by hand: decode()", page.decode(), 0);
        CHECK.due("by hand: shapes()", page.shapes(), 2);
        CHECK.due("by hand: placings()", page.placings(), 3);
        CHECK.due("by hand: glyph(0)", page.glyph(0), 1);
        CHECK.due("by hand: glyph(1)", page.glyph(1), 3);
        CHECK.due("by hand: coefficient(1, 0, 0)", page.coefficient(1, 0, 0), 512);
        for (int i = 0; i < 256; i++) {
            boolean inked = i == 0 || i == 0xFF || i == 0x35 || i == 0x36;
            CHECK.due("by hand: pixel " + i, page.pixel(i % 16, i / 16), inked ? 63 : 0);
        }
    }

    private static void faultLeavesThePicture() {
        LayeredPage page = new LayeredPage();
        page.shape(5, 3, 1, NONE);
        page.place(0, 1, 1);
        page.paint(0, 0, 0x0908070605040302L);
        page.paint(1, 0, 0x09080706L);
        int length = page.encode(10);
        CHECK.due("decode() of a right document", page.decode(), 0);
        int[] faults = {1, 2, 3, 4, 5, 6};
        int[][] tails = {{}, {1}, {5, 0, 0}, {1, 0, 0}, {2, 0, 1, 0}, {3, 0, 0}};
        for (int i = 0; i < faults.length; i++) {
            page.cut(0);
            Documents.load(page, Documents.join(START, SHAPE, PLACING, tails[i]));
            page.alter(0, faults[i] == 1 ? 81 : 80);
            CHECK.due("decode() with fault " + faults[i], page.decode(), faults[i]);
            CHECK.due("shapes() after fault " + faults[i], page.shapes(), 1);
            CHECK.due("glyph(0) after fault " + faults[i], page.glyph(0), 5);
            CHECK.due("placings() after fault " + faults[i], page.placings(), 1);
            CHECK.due("inked(3, 1) after fault " + faults[i], page.inked(3, 1), true);
            CHECK.due("inked(0, 0) after fault " + faults[i], page.inked(0, 0), false);
            CHECK.due("cell(0, 7, 0) after fault " + faults[i], page.cell(0, 7, 0), 9);
            CHECK.due("pixel(1, 1) after fault " + faults[i], page.pixel(1, 1), 6);
        }
        page.encode(10);
        CHECK.due("length() again", page.length(), length);
        CHECK.due("decode() again", page.decode(), 0);
    }

    /** Behind a code's end there are zeros, and not what stands there in the document. */
    private static void codesThatEnd() {
        LayeredPage page = new LayeredPage();
        Documents.load(page, Documents.join(START,
                Documents.bytes(1, 0, 3, 0, 0x77, 255), Documents.repeated(14, NO_PLACINGS)));
        Reference reference = new Reference();
        for (int k = 0; k < page.length(); k++) {
            reference.alter(k, page.octet(k));
        }
        CHECK.due("decode() of a short code", page.decode(), reference.decode());
        CHECK.due("glyph(0) of a short code", page.glyph(0), reference.glyph(0));
        Documents.load(page, Documents.join(START,
                Documents.bytes(1, 0, 2, 0, 0x70), Documents.bytes(1, 0, 3, 0, 0, 255)));
        CHECK.due("decode() of an empty code", page.decode(), 0);
        CHECK.due("glyph(0) of an empty code", page.glyph(0), 0);
        CHECK.due("glyph(1) behind it", page.glyph(1), 1);
    }

    private static void everyCutOfADocument() {
        LayeredPage whole = new LayeredPage();
        Reference reference = new Reference();
        whole.shape(0x070507, 3, 3, NONE);
        whole.shape(0x060507, 3, 3, 0);
        whole.place(1, 4, 4);
        whole.paint(0, 3, 0x3F003F003F003F00L);
        int length = whole.encode(10);
        for (int k = 0; k < length; k++) {
            reference.alter(k, whole.octet(k));
        }
        for (int n = length; n >= 0; n--) {
            whole.cut(n);
            reference.cut(n);
            CHECK.due("decode() after cut(" + n + ")", whole.decode(), reference.decode());
            CHECK.due("cell(0, 3, 3) after cut(" + n + ")", whole.cell(0, 3, 3), reference.cell(0, 3, 3));
        }
    }
}
