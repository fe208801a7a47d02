/** The boundary cases of promises 12 to 18. A test has its sentence above it. */
final class PictureEdgesTest {
    private static final int NONE = LayeredPage.NONE;
    private static final int LOW = Integer.MIN_VALUE;
    private static final int HIGH = Integer.MAX_VALUE;
    private static final int[] FAR = {LOW, -256, -17, -16, -8, -4, -2, -1, 16, 17, 31, 32, 256, HIGH};
    private static final Check CHECK = new Check();
    private static final Sight NEW = new Sight(Scenes::nothing);
    private static final Sight UNREAD = new Sight(PictureEdgesTest::unread);
    private static final Sight FAULTY = new Sight(PictureEdgesTest::faulty);
    private static final Sight FULL = new Sight(PictureEdgesTest::fullPicture);

    public static void main(String[] args) {
        questionsWithoutPicture(NEW, "new");
        questionsWithoutPicture(UNREAD, "written, not read");
        questionsWithoutPicture(FAULTY, "read with a fault");
        pixelOutside();
        inkedOutside();
        pixelAndInkedEverywhere();
        cellOfNoLayer();
        cellThatIsNotThere();
        coefficientOfNoLayer();
        coefficientThatIsNotThere();
        coefficientIsAsRead();
        shapesUpToEight();
        glyphOfNoShape();
        glyphsOfAShorterPicture();
        placingsUpToTwenty();
        CHECK.end();
    }

    /** No cell is 0 and every pixel is inked: an answer of nothing is none of these. */
    private static void fullPicture(LayeredPage page) {
        for (int k = 0; k < 7; k++) {
            page.shape(-1, 8, 8, NONE);
        }
        for (int i = 0; i < 4; i++) {
            page.place(i, i % 2 * 8, i / 2 * 8);
        }
        for (int y = 0; y < 8; y++) {
            page.paint(0, y, 0x3E3E3E3E3E3E3E3EL);
        }
        for (int y = 0; y < 4; y++) {
            page.paint(1, y, 0x3F3F3F3FL);
        }
        page.encode(10);
        page.decode();
    }

    private static void unread(LayeredPage page) {
        fullDraftOf(page);
        page.encode(10);
    }

    private static void faulty(LayeredPage page) {
        fullDraftOf(page);
        page.encode(10);
        page.cut(page.length() - 1);
        page.decode();
    }

    private static void fullDraftOf(LayeredPage page) {
        page.shape(-1, 8, 8, NONE);
        page.place(0, 0, 0);
        page.paint(0, 0, 0x3F3F3F3F3F3F3F3FL);
        page.paint(1, 0, 0x3F3F3F3FL);
    }

    // "NONE when there is no picture", "false when there is no picture", "0 when there is no picture"
    private static void questionsWithoutPicture(Sight sight, String name) {
        sight.unchanged(CHECK, name + ": pixel(0, 0)", p -> p.pixel(0, 0), NONE);
        sight.unchanged(CHECK, name + ": pixel(15, 15)", p -> p.pixel(15, 15), NONE);
        sight.unchanged(CHECK, name + ": pixel(-1, 16)", p -> p.pixel(-1, 16), NONE);
        sight.unchanged(CHECK, name + ": inked(0, 0)", p -> Sight.number(p.inked(0, 0)), false);
        sight.unchanged(CHECK, name + ": inked(7, 7)", p -> Sight.number(p.inked(7, 7)), false);
        sight.unchanged(CHECK, name + ": inked(-1, 16)", p -> Sight.number(p.inked(-1, 16)), false);
        for (int layer = -1; layer <= 2; layer++) {
            int asked = layer;
            sight.unchanged(CHECK, name + ": cell(" + layer + ", 0, 0)", p -> p.cell(asked, 0, 0), NONE);
            sight.unchanged(CHECK, name + ": cell(" + layer + ", 9, 9)", p -> p.cell(asked, 9, 9), NONE);
            sight.unchanged(CHECK, name + ": coefficient(" + layer + ", 0, 0)", p -> p.coefficient(asked, 0, 0), 0);
            sight.unchanged(CHECK, name + ": coefficient(" + layer + ", 9, 9)", p -> p.coefficient(asked, 9, 9), 0);
        }
        sight.unchanged(CHECK, name + ": shapes()", p -> p.shapes(), NONE);
        sight.unchanged(CHECK, name + ": glyph(0)", p -> p.glyph(0), 0);
        sight.unchanged(CHECK, name + ": glyph(-1)", p -> p.glyph(-1), 0);
        sight.unchanged(CHECK, name + ": placings()", p -> p.placings(), NONE);
    }

    // Promise 12: "NONE when .. x or y is not 0 .. 15"
    private static void pixelOutside() {
        for (int far : FAR) {
            FULL.unchanged(CHECK, "pixel(" + far + ", 0)", p -> p.pixel(far, 0), NONE);
            FULL.unchanged(CHECK, "pixel(0, " + far + ")", p -> p.pixel(0, far), NONE);
            FULL.unchanged(CHECK, "pixel(" + far + ", 15)", p -> p.pixel(far, 15), NONE);
            FULL.unchanged(CHECK, "pixel(15, " + far + ")", p -> p.pixel(15, far), NONE);
            FULL.unchanged(CHECK, "pixel of both " + far, p -> p.pixel(far, far), NONE);
        }
    }

    // Promise 13: "false when .. x or y is not 0 .. 15"
    private static void inkedOutside() {
        for (int far : FAR) {
            FULL.unchanged(CHECK, "inked(" + far + ", 0)", p -> Sight.number(p.inked(far, 0)), false);
            FULL.unchanged(CHECK, "inked(0, " + far + ")", p -> Sight.number(p.inked(0, far)), false);
            FULL.unchanged(CHECK, "inked(" + far + ", 15)", p -> Sight.number(p.inked(far, 15)), false);
            FULL.unchanged(CHECK, "inked(15, " + far + ")", p -> Sight.number(p.inked(15, far)), false);
            FULL.unchanged(CHECK, "inked of both " + far, p -> Sight.number(p.inked(far, far)), false);
        }
        LayeredPage page = new LayeredPage();
        page.shape(-1, 8, 8, NONE);
        page.place(0, 12, 12);
        page.encode(0);
        page.decode();
        for (int i = 16; i < 20; i++) {
            CHECK.due("inked(" + i + ", 13) by what is left out", page.inked(i, 13), false);
            CHECK.due("inked(13, " + i + ") by what is left out", page.inked(13, i), false);
        }
    }

    // Promise 12: "the INK cell (x / 4, y / 4) when it is inked, else the GROUND cell (x / 2, y / 2)"
    private static void pixelAndInkedEverywhere() {
        LayeredPage page = new LayeredPage();
        page.shape(0x8040201008040201L, 8, 8, NONE);
        page.place(0, 0, 0);
        page.place(0, 8, 8);
        for (int y = 0; y < 8; y++) {
            page.paint(0, y, 0x0706050403020100L + 0x0505050505050505L * y);
        }
        for (int y = 0; y < 4; y++) {
            page.paint(1, y, 0x33323130L + 0x04040404L * (y == 3 ? 0 : y));
        }
        page.encode(10);
        page.decode();
        for (int i = 0; i < 256; i++) {
            int x = i % 16;
            int y = i / 16;
            int ink = 48 + x / 4 + 4 * (y / 4 == 3 ? 0 : y / 4);
            int ground = x / 2 + 5 * (y / 2);
            CHECK.due("pixel(" + x + ", " + y + ")", page.pixel(x, y), x == y ? ink : ground);
        }
    }

    // Promise 14: "NONE when there is no .. layer .. of that number"
    private static void cellOfNoLayer() {
        int[] layers = {LOW, -2, -1, 2, 3, 4, 256, HIGH};
        for (int layer : layers) {
            FULL.unchanged(CHECK, "cell(" + layer + ", 0, 0)", p -> p.cell(layer, 0, 0), NONE);
            FULL.unchanged(CHECK, "cell(" + layer + ", 3, 3)", p -> p.cell(layer, 3, 3), NONE);
        }
    }

    // Promise 14: "NONE when there is no .. cell of that number"
    private static void cellThatIsNotThere() {
        int[] ground = {LOW, -8, -1, 8, 9, 16, 64, HIGH};
        for (int far : ground) {
            FULL.unchanged(CHECK, "cell(0, " + far + ", 0)", p -> p.cell(0, far, 0), NONE);
            FULL.unchanged(CHECK, "cell(0, " + far + ", 7)", p -> p.cell(0, far, 7), NONE);
            FULL.unchanged(CHECK, "cell(0, 0, " + far + ")", p -> p.cell(0, 0, far), NONE);
            FULL.unchanged(CHECK, "cell(0, 7, " + far + ")", p -> p.cell(0, 7, far), NONE);
        }
        int[] ink = {LOW, -4, -1, 4, 5, 7, 8, 16, HIGH};
        for (int far : ink) {
            FULL.unchanged(CHECK, "cell(1, " + far + ", 0)", p -> p.cell(1, far, 0), NONE);
            FULL.unchanged(CHECK, "cell(1, " + far + ", 3)", p -> p.cell(1, far, 3), NONE);
            FULL.unchanged(CHECK, "cell(1, 0, " + far + ")", p -> p.cell(1, 0, far), NONE);
            FULL.unchanged(CHECK, "cell(1, 3, " + far + ")", p -> p.cell(1, 3, far), NONE);
        }
        for (int i = 0; i < 64; i++) {
            LayeredPage page = new LayeredPage();
            fullPicture(page);
            CHECK.due("cell(0) " + i, page.cell(0, i % 8, i / 8), 62);
            CHECK.due("cell(1) " + i, page.cell(1, i % 8, i / 8), i % 8 < 4 && i / 8 < 4 ? 63 : NONE);
        }
    }

    /** A page whose coefficients of both layers are all -1023: an answer of 0 is none of these. */
    private static void lowestCoefficients(LayeredPage page) {
        int[] ground = Documents.chunk(3, Documents.bytes(10), Documents.repeated(60, 255));
        int[] ink = Documents.chunk(4, Documents.bytes(10), Documents.repeated(30, 255));
        Documents.load(page, Documents.join(Documents.bytes(80, 71), ground, ink));
        page.decode();
    }

    // Promise 15: "0 when there is no .. layer .. of that number"
    private static void coefficientOfNoLayer() {
        Sight lowest = new Sight(PictureEdgesTest::lowestCoefficients);
        int[] layers = {LOW, -2, -1, 2, 3, 4, 256, HIGH};
        for (int layer : layers) {
            lowest.unchanged(CHECK, "coefficient(" + layer + ", 0, 0)", p -> p.coefficient(layer, 0, 0), 0);
            lowest.unchanged(CHECK, "coefficient(" + layer + ", 3, 3)", p -> p.coefficient(layer, 3, 3), 0);
        }
    }

    // Promise 15: "0 when there is no .. cell of that number"
    private static void coefficientThatIsNotThere() {
        Sight lowest = new Sight(PictureEdgesTest::lowestCoefficients);
        int[] ground = {LOW, -8, -1, 8, 9, 16, 64, HIGH};
        for (int far : ground) {
            lowest.unchanged(CHECK, "coefficient(0, " + far + ", 0)", p -> p.coefficient(0, far, 0), 0);
            lowest.unchanged(CHECK, "coefficient(0, " + far + ", 7)", p -> p.coefficient(0, far, 7), 0);
            lowest.unchanged(CHECK, "coefficient(0, 0, " + far + ")", p -> p.coefficient(0, 0, far), 0);
            lowest.unchanged(CHECK, "coefficient(0, 7, " + far + ")", p -> p.coefficient(0, 7, far), 0);
        }
        int[] ink = {LOW, -4, -1, 4, 5, 7, 8, 16, HIGH};
        for (int far : ink) {
            lowest.unchanged(CHECK, "coefficient(1, " + far + ", 0)", p -> p.coefficient(1, far, 0), 0);
            lowest.unchanged(CHECK, "coefficient(1, " + far + ", 3)", p -> p.coefficient(1, far, 3), 0);
            lowest.unchanged(CHECK, "coefficient(1, 0, " + far + ")", p -> p.coefficient(1, 0, far), 0);
            lowest.unchanged(CHECK, "coefficient(1, 3, " + far + ")", p -> p.coefficient(1, 3, far), 0);
        }
    }

    // Promise 15: "The coefficient at column x and row y .., as it was read": above 63 and below 0, too
    private static void coefficientIsAsRead() {
        LayeredPage page = new LayeredPage();
        lowestCoefficients(page);
        for (int i = 0; i < 64; i++) {
            CHECK.due("coefficient(0) " + i, page.coefficient(0, i % 8, i / 8), -1023);
            CHECK.due("coefficient(1) " + i, page.coefficient(1, i % 8, i / 8), i % 8 < 4 && i / 8 < 4 ? -1023 : 0);
        }
        page = new LayeredPage();
        // zeros in context 0, a one, and its sign: row 0, column 2
        int[] code = Reference.code(0, 0, 0, 0, 0, 1, 3, 0);
        Documents.load(page, Documents.join(Documents.bytes(80, 71), Documents.chunk(4, Documents.bytes(1), code)));
        page.decode();
        CHECK.due("coefficient(1, 2, 0)", page.coefficient(1, 2, 0), 512);
        CHECK.due("coefficient(1, 0, 2)", page.coefficient(1, 0, 2), 0);
    }

    // Promise 16: "How many shapes the picture has"
    private static void shapesUpToEight() {
        for (int n = 0; n <= 8; n++) {
            LayeredPage page = new LayeredPage();
            Documents.load(page, Documents.join(Documents.bytes(80, 71), Documents.repeated(n, 1, 0, 2, 0, 0)));
            CHECK.due("shapes() not yet read", page.shapes(), NONE);
            page.decode();
            CHECK.due("shapes() of " + n, page.shapes(), n);
            CHECK.due("placings() of none", page.placings(), 0);
            page.cut(0);
            page.decode();
            CHECK.due("shapes() of " + n + " after a fault", page.shapes(), n);
        }
    }

    // Promise 17: "0 when there is no .. shape of that number"
    private static void glyphOfNoShape() {
        int[] wrong = {LOW, -8, -1, 7, 8, 9, 16, 256, HIGH};
        for (int k : wrong) {
            FULL.unchanged(CHECK, "glyph(" + k + ") of seven", p -> p.glyph(k), 0);
        }
        for (int k = 0; k < 7; k++) {
            int there = k;
            FULL.unchanged(CHECK, "glyph(" + k + ") of seven", p -> p.glyph(there), -1);
        }
        LayeredPage page = new LayeredPage();
        for (int k = 0; k < 8; k++) {
            page.shape(-1L << k, 8, 8, NONE);
        }
        page.encode(0);
        page.decode();
        for (int k = 0; k < 8; k++) {
            CHECK.due("glyph(" + k + ") of eight", page.glyph(k), -1L << k);
        }
        CHECK.due("glyph(8) of eight", page.glyph(8), 0);
        CHECK.due("glyph(-1) of eight", page.glyph(-1), 0);
    }

    // Promise 17: "of that number" in the picture, not in one that was read before
    private static void glyphsOfAShorterPicture() {
        LayeredPage page = new LayeredPage();
        fullPicture(page);
        page.decode();
        Documents.load(page, 80, 71, 1, 0, 2, 0, 0x77);
        CHECK.due("decode() of one shape", page.decode(), 0);
        for (int k = 0; k < 8; k++) {
            CHECK.due("glyph(" + k + ") of one without bits", page.glyph(k), 0);
        }
        CHECK.due("shapes() of it", page.shapes(), 1);
        CHECK.due("placings() of it", page.placings(), 0);
        CHECK.due("inked(0, 0) of it", page.inked(0, 0), false);
    }

    // Promise 18: "How many placings the picture has"
    private static void placingsUpToTwenty() {
        for (int n = 0; n <= 20; n++) {
            LayeredPage page = new LayeredPage();
            int[] placings = Documents.chunk(2, new int[2 * n]);
            Documents.load(page, Documents.join(Documents.bytes(80, 71, 1, 0, 2, 0, 0), placings));
            CHECK.due("placings() not yet read", page.placings(), NONE);
            page.decode();
            CHECK.due("placings() of " + n, page.placings(), n);
            page.cut(1);
            page.decode();
            CHECK.due("placings() of " + n + " after a fault", page.placings(), n);
        }
        LayeredPage page = new LayeredPage();
        Documents.load(page, 80, 71, 1, 0, 2, 0, 0, 2, 0, 2, 0, 0, 2, 0, 0, 2, 0, 4, 0, 1, 0, 2);
        page.decode();
        CHECK.due("placings() of three chunks", page.placings(), 3);
    }
}
