/** Promise 11: decode. */
final class DecodeTest {
    private static final int NONE = LayeredPage.NONE;
    private static final int[] START = {80, 71};
    private static final int[] SHAPE = {1, 0, 5, 0, 0, 128, 0, 0};
    private static final int[] BARE_SHAPE = {1, 0, 2, 0, 0};
    private static final int[] NO_PLACINGS = {2, 0, 0};
    private static final int[] PLACING = {2, 0, 2, 0, 0};
    private static final int[] GROUND = {3, 0, 1, 0};
    private static final int[] INK = {4, 0, 1, 0};
    private static final Check CHECK = new Check();

    public static void main(String[] args) {
        starts();
        sizes();
        kinds();
        shapes();
        shapeSizes();
        placings();
        layers();
        firstFaultIsTold();
        faultLeavesThePicture();
        pictureStaysWhenTheDocumentChanges();
        codesThatEnd();
        everyCutOfADocument();
        CHECK.end();
    }

    /** What decode answers to the bytes behind 80, 71. */
    private static void due(String name, int fault, int[]... chunks) {
        LayeredPage page = new LayeredPage();
        Documents.load(page, Documents.join(START, Documents.join(chunks)));
        CHECK.due(name + ": decode()", page.decode(), fault);
        CHECK.due(name + ": is there a picture", page.shapes() != NONE, fault == 0);
    }

    private static void starts() {
        int[][] wrong = {{}, {80}, {71}, {71, 80}, {80, 70}, {81, 71}, {0, 80, 71}, {80, 72, 9, 9}, {79, 71, 2, 0, 0}};
        for (int[] bytes : wrong) {
            LayeredPage page = new LayeredPage();
            Documents.load(page, bytes);
            CHECK.due("start of " + bytes.length + " bytes", page.decode(), 1);
            CHECK.due("shapes() after it", page.shapes(), NONE);
        }
        due("the start alone", 0);
    }

    private static void sizes() {
        due("a kind alone", 2, Documents.bytes(2));
        due("half a length", 2, Documents.bytes(2, 0));
        due("a length of 0", 0, NO_PLACINGS);
        due("a byte too few", 2, Documents.bytes(3, 0, 2, 0));
        due("just enough", 0, Documents.bytes(3, 0, 2, 0, 0));
        due("a byte too many", 2, Documents.bytes(3, 0, 1, 0, 0));
        due("the high byte counts", 2, Documents.bytes(3, 1, 1, 0));
        due("a high byte of a long chunk", 0, Documents.bytes(3, 1, 1), new int[257]);
        due("one less than it", 2, Documents.bytes(3, 1, 1), new int[256]);
        due("the highest length", 2, Documents.bytes(3, 255, 255, 0));
    }

    private static void kinds() {
        due("kind 0", 3, Documents.bytes(0, 0, 0));
        due("kind 5", 3, Documents.bytes(5, 0, 0));
        due("kind 255", 3, Documents.bytes(255, 0, 0));
        due("sixteen chunks", 0, Documents.repeated(16, NO_PLACINGS));
        due("seventeen chunks", 3, Documents.repeated(17, NO_PLACINGS));
        due("the seventeenth has a wrong size", 2, Documents.repeated(16, NO_PLACINGS), Documents.bytes(2, 0));
        due("the seventeenth is too long", 2, Documents.repeated(16, NO_PLACINGS), Documents.bytes(2, 0, 1));
        due("the seventeenth has other faults", 3, Documents.repeated(16, NO_PLACINGS), Documents.bytes(3, 0, 0));
        due("a wrong kind of a wrong size", 2, Documents.bytes(9, 0, 1));
    }

    private static void shapes() {
        due("eight shapes", 0, Documents.repeated(8, SHAPE));
        due("nine shapes", 4, Documents.repeated(9, SHAPE));
        due("eight shapes and placings", 0, Documents.repeated(8, SHAPE), Documents.bytes(2, 0, 2, 7, 255));
        due("a shape of no bytes", 4, Documents.bytes(1, 0, 0));
        due("a shape of one byte", 4, Documents.bytes(1, 0, 1, 0));
        due("a shape without a code", 0, BARE_SHAPE);
        due("base of the first", 4, Documents.bytes(1, 0, 2, 1, 0));
        due("base of the second", 0, BARE_SHAPE, Documents.bytes(1, 0, 2, 1, 0));
        due("base is itself", 4, BARE_SHAPE, Documents.bytes(1, 0, 2, 2, 0));
        due("base is far off", 4, BARE_SHAPE, Documents.bytes(1, 0, 2, 255, 0));
    }

    private static void shapeSizes() {
        for (int octet = 0; octet < 256; octet++) {
            boolean right = octet / 16 <= 7 && octet % 16 <= 7;
            due("second byte " + octet, right ? 0 : 4, Documents.bytes(1, 0, 2, 0, octet));
        }
    }

    private static void placings() {
        due("placing of no shape", 5, PLACING);
        due("placing of a shape", 0, SHAPE, PLACING);
        due("placing before its shape", 5, PLACING, SHAPE);
        due("placing of a later shape", 5, SHAPE, Documents.bytes(2, 0, 2, 1, 0), SHAPE);
        due("the last placing is wrong", 5, SHAPE, Documents.bytes(2, 0, 4, 0, 0, 1, 0));
        due("a shape's number far off", 5, SHAPE, Documents.bytes(2, 0, 2, 255, 0));
        due("odd length", 5, SHAPE, Documents.bytes(2, 0, 1, 0));
        due("odd length of three", 5, SHAPE, Documents.bytes(2, 0, 3, 0, 0, 0));
        due("twenty placings", 0, SHAPE, Documents.bytes(2, 0, 40), new int[40]);
        due("twenty-one placings", 5, SHAPE, Documents.bytes(2, 0, 42), new int[42]);
        due("twenty in two chunks", 0, SHAPE, Documents.bytes(2, 0, 38), new int[38], PLACING);
        due("twenty-one in two chunks", 5, SHAPE, Documents.bytes(2, 0, 40), new int[40], PLACING);
        due("none behind twenty", 0, SHAPE, Documents.bytes(2, 0, 40), new int[40], NO_PLACINGS);
        due("two chunks with a shape between", 0, SHAPE, PLACING, SHAPE, Documents.bytes(2, 0, 2, 1, 255));
    }

    private static void layers() {
        due("both layers", 0, GROUND, INK);
        due("the other way round", 0, INK, GROUND);
        due("ground twice", 6, GROUND, GROUND);
        due("ink twice", 6, INK, INK);
        due("ground twice with ink between", 6, GROUND, INK, GROUND);
        due("ground of no bytes", 6, Documents.bytes(3, 0, 0));
        due("ink of no bytes", 6, Documents.bytes(4, 0, 0));
        due("ten slices", 0, Documents.bytes(3, 0, 1, 10), Documents.bytes(4, 0, 1, 10));
        due("eleven slices", 6, Documents.bytes(3, 0, 1, 11));
        due("eleven slices of ink", 6, Documents.bytes(4, 0, 1, 11));
        due("255 slices", 6, Documents.bytes(3, 0, 1, 255));
    }

    private static void firstFaultIsTold() {
        due("a layer, then a size", 6, GROUND, GROUND, Documents.bytes(1));
        due("a kind, then a placing", 3, Documents.bytes(7, 0, 0), PLACING);
        due("a placing, then a kind", 5, PLACING, Documents.bytes(7, 0, 0));
        due("a shape, then a size", 4, Documents.bytes(1, 0, 0), Documents.bytes(1, 9));
        due("a size, whatever is behind", 2, Documents.bytes(1, 0, 9), SHAPE);
    }

    private static void faultLeavesThePicture() {
        LayeredPage page = new LayeredPage();
        page.shape(5, 3, 1, NONE);
        page.place(0, 1, 1);
        page.paint(0, 0, 0x0908070605040302L);
        page.paint(1, 0, 0x09080706L);
        int length = page.encode(10);
        CHECK.due("decode() of a right document", page.decode(), 0);
        int[] faults = {1, 2, 3, 4, 5, 6};
        int[][] tails = {{}, {1}, {5, 0, 0}, {1, 0, 0}, {2, 0, 1, 0}, {3, 0, 0}};
        for (int i = 0; i < faults.length; i++) {
            page.cut(0);
            Documents.load(page, Documents.join(START, SHAPE, PLACING, tails[i]));
            page.alter(0, faults[i] == 1 ? 81 : 80);
            CHECK.due("decode() with fault " + faults[i], page.decode(), faults[i]);
            CHECK.due("shapes() after fault " + faults[i], page.shapes(), 1);
            CHECK.due("glyph(0) after fault " + faults[i], page.glyph(0), 5);
            CHECK.due("placings() after fault " + faults[i], page.placings(), 1);
            CHECK.due("inked(3, 1) after fault " + faults[i], page.inked(3, 1), true);
            CHECK.due("inked(0, 0) after fault " + faults[i], page.inked(0, 0), false);
            CHECK.due("cell(0, 7, 0) after fault " + faults[i], page.cell(0, 7, 0), 9);
            CHECK.due("pixel(1, 1) after fault " + faults[i], page.pixel(1, 1), 6);
        }
        page.encode(10);
        CHECK.due("length() again", page.length(), length);
        CHECK.due("decode() again", page.decode(), 0);
    }

    private static void pictureStaysWhenTheDocumentChanges() {
        LayeredPage page = new LayeredPage();
        Documents.load(page, Documents.join(START, SHAPE, PLACING));
        page.decode();
        page.alter(7, 0);
        page.cut(5);
        CHECK.due("glyph(0) of an altered document", page.glyph(0), 1);
        CHECK.due("inked(0, 0) of an altered document", page.inked(0, 0), true);
        Documents.load(page, START);
        CHECK.due("decode() of the start alone", page.decode(), 0);
        CHECK.due("shapes() of the start alone", page.shapes(), 0);
        CHECK.due("placings() of the start alone", page.placings(), 0);
        CHECK.due("inked(0, 0) of the start alone", page.inked(0, 0), false);
        CHECK.due("glyph(0) of the start alone", page.glyph(0), 0);
    }

    /** Behind a code's end there are zeros, and not what stands there in the document. */
    private static void codesThatEnd() {
        LayeredPage page = new LayeredPage();
        Documents.load(page, Documents.join(START,
                Documents.bytes(1, 0, 3, 0, 0x77, 255), Documents.repeated(14, NO_PLACINGS)));
        Reference reference = new Reference();
        for (int k = 0; k < page.length(); k++) {
            reference.alter(k, page.octet(k));
        }
        CHECK.due("decode() of a short code", page.decode(), reference.decode());
        CHECK.due("glyph(0) of a short code", page.glyph(0), reference.glyph(0));
        Documents.load(page, Documents.join(START,
                Documents.bytes(1, 0, 2, 0, 0x70), Documents.bytes(1, 0, 3, 0, 0, 255)));
        CHECK.due("decode() of an empty code", page.decode(), 0);
        CHECK.due("glyph(0) of an empty code", page.glyph(0), 0);
        CHECK.due("glyph(1) behind it", page.glyph(1), 1);
    }

    private static void everyCutOfADocument() {
        LayeredPage whole = new LayeredPage();
        Reference reference = new Reference();
        whole.shape(0x070507, 3, 3, NONE);
        whole.shape(0x060507, 3, 3, 0);
        whole.place(1, 4, 4);
        whole.paint(0, 3, 0x3F003F003F003F00L);
        int length = whole.encode(10);
        for (int k = 0; k < length; k++) {
            reference.alter(k, whole.octet(k));
        }
        for (int n = length; n >= 0; n--) {
            whole.cut(n);
            reference.cut(n);
            CHECK.due("decode() after cut(" + n + ")", whole.decode(), reference.decode());
            CHECK.due("cell(0, 3, 3) after cut(" + n + ")", whole.cell(0, 3, 3), reference.cell(0, 3, 3));
        }
    }
}
