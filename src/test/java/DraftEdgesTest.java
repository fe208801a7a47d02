/** The boundary cases of promises 1 to 6. A test has its sentence above it. */
final class DraftEdgesTest {
    private static final int NONE = LayeredPage.NONE;
    private static final int LOW = Integer.MIN_VALUE;
    private static final int HIGH = Integer.MAX_VALUE;
    private static final int[] EMPTY = {80, 71, 2, 0, 0, 3, 0, 3, 0, 0, 0, 4, 0, 3, 0, 0, 0};
    private static final Check CHECK = new Check();
    private static final Sight NEW = new Sight(Scenes::nothing);
    private static final Sight DRAFT = new Sight(Scenes::draft);
    private static final Sight FULL = new Sight(Scenes::fullDraft);

    public static void main(String[] args) {
        newObjectHasAnEmptyDraft();
        newObjectHasNoBytes();
        newObjectHasNoPicture();
        shapeWhenThereAreEight();
        shapeWhoseSidesAreWrong();
        shapeWithABitOutside();
        shapeWhoseBaseIsNone();
        shapeNumbersAfterRefusals();
        placeWhenThereAreTwenty();
        placeOfNoShape();
        placeOutsideOfThePage();
        placeCountsAfterRefusals();
        paintOfNoLayer();
        paintOfNoRow();
        paintOfAByteAboveSixtyThree();
        paintOfInkTooWide();
        paintFromTheLowestByte();
        clearEmptiesTheDraft();
        clearLeavesDocumentAndPicture();
        clearOfAnEmptyDraft();
        encodeWithoutPlacings();
        encodeWithEverySliceNumber();
        encodeWithWrongSlices();
        encodeReplacesTheDocument();
        encodeLeavesDraftAndPicture();
        encodeNeverNeedsMore();
        CHECK.end();
    }

    // Promise 1: "An empty draft (no shapes, no placings, all cells 0)"
    private static void newObjectHasAnEmptyDraft() {
        LayeredPage page = new LayeredPage();
        CHECK.due("new: place(0, 0, 0)", page.place(0, 0, 0), NONE);
        CHECK.due("new: shape with a base", page.shape(1, 1, 1, 0), NONE);
        CHECK.due("new: encode(0)", page.encode(0), EMPTY.length);
        Documents.due(CHECK, "new: encode(0)", page, EMPTY);
        CHECK.due("new: encode(10)", page.encode(10), 25);
        CHECK.due("new: decode()", page.decode(), 0);
        CHECK.due("new: shapes()", page.shapes(), 0);
        CHECK.due("new: placings()", page.placings(), 0);
        for (int i = 0; i < 64; i++) {
            CHECK.due("new: cell " + i, page.cell(0, i % 8, i / 8), 0);
            CHECK.due("new: ink cell " + i, page.cell(1, i % 4, i / 4), i < 16 ? 0 : NONE);
        }
        page = new LayeredPage();
        CHECK.due("new: first shape", page.shape(0, 1, 1, NONE), 0);
        CHECK.due("new: first placing", page.place(0, 0, 0), 1);
    }

    // Promise 1: "a document without bytes"
    private static void newObjectHasNoBytes() {
        NEW.unchanged(CHECK, "new: length()", p -> p.length(), 0);
        NEW.unchanged(CHECK, "new: octet(0)", p -> p.octet(0), NONE);
        NEW.unchanged(CHECK, "new: octet(-1)", p -> p.octet(-1), NONE);
        NEW.unchanged(CHECK, "new: alter(1, 80)", p -> Sight.number(p.alter(1, 80)), false);
        NEW.unchanged(CHECK, "new: alter(-1, 80)", p -> Sight.number(p.alter(-1, 80)), false);
        NEW.unchanged(CHECK, "new: cut(0)", p -> Sight.number(p.cut(0)), true);
        NEW.unchanged(CHECK, "new: cut(1)", p -> Sight.number(p.cut(1)), false);
        NEW.unchanged(CHECK, "new: decode()", p -> p.decode(), 1);
        LayeredPage page = new LayeredPage();
        CHECK.due("new: alter(0, 80)", page.alter(0, 80), true);
        CHECK.due("new: length() after it", page.length(), 1);
    }

    // Promise 1: "no picture"
    private static void newObjectHasNoPicture() {
        for (int i = 0; i < 256; i++) {
            int x = i % 16;
            int y = i / 16;
            LayeredPage page = new LayeredPage();
            CHECK.due("new: pixel(" + x + ", " + y + ")", page.pixel(x, y), NONE);
            CHECK.due("new: inked(" + x + ", " + y + ")", page.inked(x, y), false);
            CHECK.due("new: cell(0, " + x + ", " + y + ")", page.cell(0, x, y), NONE);
            CHECK.due("new: cell(1, " + x + ", " + y + ")", page.cell(1, x, y), NONE);
            CHECK.due("new: coefficient(0, " + x + ", " + y + ")", page.coefficient(0, x, y), 0);
            CHECK.due("new: coefficient(1, " + x + ", " + y + ")", page.coefficient(1, x, y), 0);
            CHECK.due("new: glyph(" + i + ")", page.glyph(i), 0);
            CHECK.due("new: shapes()", page.shapes(), NONE);
            CHECK.due("new: placings()", page.placings(), NONE);
        }
    }

    // Promise 2: "Refused, answering NONE, when there are eight"
    private static void shapeWhenThereAreEight() {
        LayeredPage page = new LayeredPage();
        for (int k = 0; k < 8; k++) {
            CHECK.due("shape " + k, page.shape(k, 8, 8, NONE), k);
        }
        CHECK.due("a ninth shape", page.shape(9, 8, 8, NONE), NONE);
        FULL.unchanged(CHECK, "a ninth shape", p -> p.shape(1, 1, 1, NONE), NONE);
        FULL.unchanged(CHECK, "a ninth shape with a base", p -> p.shape(-1, 8, 8, 7), NONE);
        FULL.unchanged(CHECK, "a ninth shape, its own base", p -> p.shape(0, 1, 1, 8), NONE);
        page.clear();
        CHECK.due("a first shape again", page.shape(9, 8, 8, NONE), 0);
    }

    // Promise 2: "w or h is not 1 .. 8"
    private static void shapeWhoseSidesAreWrong() {
        int[] sides = {LOW, -8, -1, 0, 9, 10, 16, 64, 65, 256 + 3, HIGH};
        for (int side : sides) {
            NEW.unchanged(CHECK, "shape of width " + side, p -> p.shape(0, side, 1, NONE), NONE);
            NEW.unchanged(CHECK, "shape of height " + side, p -> p.shape(0, 1, side, NONE), NONE);
            DRAFT.unchanged(CHECK, "shape of width " + side, p -> p.shape(1, side, 8, 0), NONE);
            DRAFT.unchanged(CHECK, "shape of height " + side, p -> p.shape(1, 8, side, 0), NONE);
            DRAFT.unchanged(CHECK, "shape of both " + side, p -> p.shape(0, side, side, NONE), NONE);
        }
    }

    // Promise 2: "a bit outside of the shape is 1": each bit, of each size
    private static void shapeWithABitOutside() {
        for (int w = 1; w <= 8; w++) {
            for (int h = 1; h <= 8; h++) {
                for (int i = 0; i < 64; i++) {
                    LayeredPage page = new LayeredPage();
                    boolean inside = i % 8 < w && i / 8 < h;
                    String name = "bit " + i + " of " + w + " x " + h;
                    CHECK.due(name, page.shape(1L << i, w, h, NONE), inside ? 0 : NONE);
                    CHECK.due("shape behind " + name, page.shape(0, w, h, NONE), inside ? 1 : 0);
                }
            }
        }
        DRAFT.unchanged(CHECK, "a bit at the right", p -> p.shape(0x08, 3, 3, NONE), NONE);
        DRAFT.unchanged(CHECK, "a bit below", p -> p.shape(0x01000000, 3, 3, 2), NONE);
        DRAFT.unchanged(CHECK, "the last bit of all", p -> p.shape(Long.MIN_VALUE, 8, 7, NONE), NONE);
        DRAFT.unchanged(CHECK, "all bits of 7 x 8", p -> p.shape(-1, 7, 8, NONE), NONE);
        DRAFT.unchanged(CHECK, "one bit too many", p -> p.shape(0x030303, 1, 3, NONE), NONE);
    }

    // Promise 2: "or base is neither NONE nor a shape of the draft"
    private static void shapeWhoseBaseIsNone() {
        int[] bases = {LOW, -3, -2, 3, 4, 7, 8, 256, HIGH};
        for (int base : bases) {
            DRAFT.unchanged(CHECK, "shape with base " + base, p -> p.shape(1, 1, 1, base), NONE);
            NEW.unchanged(CHECK, "first shape with base " + base, p -> p.shape(1, 1, 1, base), NONE);
        }
        NEW.unchanged(CHECK, "first shape with base 0", p -> p.shape(1, 1, 1, 0), NONE);
        LayeredPage page = new LayeredPage();
        Scenes.draft(page);
        CHECK.due("shape with the last base", page.shape(1, 1, 1, 2), 3);
        CHECK.due("shape with the first base", page.shape(1, 1, 1, 0), 4);
        page.clear();
        CHECK.due("shape with a base that was cleared", page.shape(1, 1, 1, 0), NONE);
    }

    // Promise 2: "Answers its number."
    private static void shapeNumbersAfterRefusals() {
        LayeredPage page = new LayeredPage();
        for (int k = 0; k < 8; k++) {
            CHECK.due("refused before " + k, page.shape(2, 1, 1, NONE), NONE);
            CHECK.due("base before " + k, page.shape(1, 1, 1, k), NONE);
            CHECK.due("number " + k, page.shape(1, 1, 1, k - 1), k);
        }
        page.encode(0);
        page.decode();
        CHECK.due("shapes() after refusals", page.shapes(), 8);
    }

    // Promise 3: "Refused, answering NONE, when there are 20"
    private static void placeWhenThereAreTwenty() {
        LayeredPage page = new LayeredPage();
        page.shape(1, 1, 1, NONE);
        for (int i = 1; i <= 20; i++) {
            CHECK.due("placing " + i, page.place(0, 7, 7), i);
        }
        CHECK.due("placing 21", page.place(0, 7, 7), NONE);
        FULL.unchanged(CHECK, "placing 21", p -> p.place(0, 0, 0), NONE);
        FULL.unchanged(CHECK, "placing 21 at the end", p -> p.place(7, 15, 15), NONE);
        page.clear();
        page.shape(1, 1, 1, NONE);
        CHECK.due("a first placing again", page.place(0, 7, 7), 1);
    }

    // Promise 3: "there is no such shape"
    private static void placeOfNoShape() {
        int[] shapes = {LOW, -2, -1, 3, 4, 7, 8, 256, HIGH};
        for (int shape : shapes) {
            DRAFT.unchanged(CHECK, "place of " + shape, p -> p.place(shape, 1, 1), NONE);
            NEW.unchanged(CHECK, "place of " + shape, p -> p.place(shape, 0, 0), NONE);
        }
        NEW.unchanged(CHECK, "place of 0", p -> p.place(0, 0, 0), NONE);
        LayeredPage page = new LayeredPage();
        Scenes.draft(page);
        CHECK.due("place of the last shape", page.place(2, 1, 1), 6);
        CHECK.due("place of the first shape", page.place(0, 1, 1), 7);
        page.clear();
        CHECK.due("place of a shape that was cleared", page.place(0, 1, 1), NONE);
    }

    // Promise 3: "or x or y is not 0 .. 15"
    private static void placeOutsideOfThePage() {
        int[] spots = {LOW, -16, -1, 16, 17, 31, 256, HIGH};
        for (int spot : spots) {
            DRAFT.unchanged(CHECK, "place at x " + spot, p -> p.place(0, spot, 0), NONE);
            DRAFT.unchanged(CHECK, "place at y " + spot, p -> p.place(0, 0, spot), NONE);
            DRAFT.unchanged(CHECK, "place at x 15, y " + spot, p -> p.place(2, 15, spot), NONE);
            DRAFT.unchanged(CHECK, "place at x " + spot + ", y 15", p -> p.place(2, spot, 15), NONE);
        }
        for (int i = 0; i < 256; i++) {
            LayeredPage page = new LayeredPage();
            page.shape(1, 1, 1, NONE);
            CHECK.due("place at " + i % 16 + ", " + i / 16, page.place(0, i % 16, i / 16), 1);
            page.encode(0);
            page.decode();
            CHECK.due("inked there", page.inked(i % 16, i / 16), true);
        }
    }

    // Promise 3: "answers how many there are"
    private static void placeCountsAfterRefusals() {
        LayeredPage page = new LayeredPage();
        page.shape(1, 1, 1, NONE);
        for (int i = 1; i <= 20; i++) {
            CHECK.due("refused before " + i, page.place(1, 0, 0), NONE);
            CHECK.due("outside before " + i, page.place(0, 16, 0), NONE);
            CHECK.due("placing " + i, page.place(0, 15, 0), i);
        }
    }

    // Promise 4: "refused, answering false, when the layer is not 0 or 1"
    private static void paintOfNoLayer() {
        int[] layers = {LOW, -2, -1, 2, 3, 256, HIGH};
        for (int layer : layers) {
            DRAFT.unchanged(CHECK, "paint of layer " + layer, p -> Sight.number(p.paint(layer, 0, 9)), false);
            NEW.unchanged(CHECK, "paint of layer " + layer, p -> Sight.number(p.paint(layer, 3, 0)), false);
        }
    }

    // Promise 4: "it has no such row"
    private static void paintOfNoRow() {
        int[] rows = {LOW, -4, -1, 8, 9, 256, HIGH};
        for (int row : rows) {
            DRAFT.unchanged(CHECK, "paint of row " + row, p -> Sight.number(p.paint(0, row, 9)), false);
            DRAFT.unchanged(CHECK, "paint of ink row " + row, p -> Sight.number(p.paint(1, row, 9)), false);
        }
        for (int row = 0; row < 8; row++) {
            LayeredPage page = new LayeredPage();
            CHECK.due("paint(0, " + row + ", 9)", page.paint(0, row, 9), true);
            CHECK.due("paint(1, " + row + ", 9)", page.paint(1, row, 9), row < 4);
            page.encode(10);
            page.decode();
            CHECK.due("cell(0, 0, " + row + ")", page.cell(0, 0, row), 9);
            CHECK.due("cell(1, 0, " + row + ")", page.cell(1, 0, row), row < 4 ? 9 : NONE);
        }
        for (int row = 4; row < 8; row++) {
            int wrong = row;
            DRAFT.unchanged(CHECK, "paint of ink row " + row, p -> Sight.number(p.paint(1, wrong, 9)), false);
        }
    }

    // Promise 4: "or a byte is above 63"
    private static void paintOfAByteAboveSixtyThree() {
        int[] wrong = {64, 65, 127, 128, 191, 192, 255};
        for (int octet : wrong) {
            for (int x = 0; x < 8; x++) {
                long cells = 0x0101010101010101L & ~(255L << (8 * x)) | (long) octet << (8 * x);
                String name = octet + " as byte " + x;
                DRAFT.unchanged(CHECK, name, p -> Sight.number(p.paint(0, 5, cells)), false);
                long ink = cells & 0xFFFFFFFFL;
                if (x < 4) {
                    DRAFT.unchanged(CHECK, "ink of " + name, p -> Sight.number(p.paint(1, 2, ink)), false);
                }
            }
        }
        for (int x = 0; x < 8; x++) {
            LayeredPage page = new LayeredPage();
            CHECK.due("63 as byte " + x, page.paint(0, 5, 63L << (8 * x)), true);
            page.encode(10);
            page.decode();
            CHECK.due("cell(0, " + x + ", 5)", page.cell(0, x, 5), 63);
        }
        DRAFT.unchanged(CHECK, "all bits", p -> Sight.number(p.paint(0, 0, -1)), false);
        DRAFT.unchanged(CHECK, "all bits of ink", p -> Sight.number(p.paint(1, 0, -1)), false);
    }

    // Promise 4: "or (for INK) one of the bytes 4 .. 7 is not 0"
    private static void paintOfInkTooWide() {
        int[] octets = {1, 2, 32, 63, 64, 128, 255};
        for (int octet : octets) {
            for (int x = 4; x < 8; x++) {
                long cells = 0x01010101L | (long) octet << (8 * x);
                String name = "ink with " + octet + " as byte " + x;
                DRAFT.unchanged(CHECK, name, p -> Sight.number(p.paint(1, 1, cells)), false);
                if (octet <= 63) {
                    CHECK.due("ground with it", new LayeredPage().paint(0, 1, cells), true);
                }
            }
        }
        CHECK.due("ink with the bytes 0 .. 3", new LayeredPage().paint(1, 1, 0x3F3F3F3FL), true);
    }

    // Promise 4: "its cell x becomes the byte x of cells, counted from the lowest"; the other rows stay
    private static void paintFromTheLowestByte() {
        LayeredPage page = new LayeredPage();
        page.paint(0, 0, 0x3F3F3F3F3F3F3F3FL);
        page.paint(0, 0, 0x3F06050403020100L);
        page.paint(0, 7, 0x000000000000003FL);
        page.paint(1, 0, 0x3F3F3F3FL);
        page.paint(1, 0, 0x3F020100L);
        page.paint(1, 3, 0x0000003FL);
        page.encode(10);
        page.decode();
        for (int x = 0; x < 8; x++) {
            CHECK.due("cell(0, " + x + ", 0)", page.cell(0, x, 0), x == 7 ? 63 : x);
            CHECK.due("cell(0, " + x + ", 7)", page.cell(0, x, 7), x == 0 ? 63 : 0);
            CHECK.due("cell(0, " + x + ", 3)", page.cell(0, x, 3), 0);
        }
        for (int x = 0; x < 4; x++) {
            CHECK.due("cell(1, " + x + ", 0)", page.cell(1, x, 0), x == 3 ? 63 : x);
            CHECK.due("cell(1, " + x + ", 3)", page.cell(1, x, 3), x == 0 ? 63 : 0);
        }
    }

    // Promise 5: "The draft is empty as at first."
    private static void clearEmptiesTheDraft() {
        LayeredPage page = new LayeredPage();
        Scenes.fullDraft(page);
        page.clear();
        CHECK.due("place() after clear()", page.place(0, 0, 0), NONE);
        CHECK.due("shape() with a base after clear()", page.shape(1, 1, 1, 0), NONE);
        page.encode(0);
        Documents.due(CHECK, "cleared, no slices", page, EMPTY);
        page.encode(10);
        LayeredPage fresh = new LayeredPage();
        fresh.encode(10);
        CHECK.due("cleared, ten slices", Sight.document(page), Sight.document(fresh));
        for (int k = 0; k < 8; k++) {
            CHECK.due("shape " + k + " after clear()", page.shape(1, 1, 1, k - 1), k);
        }
        for (int i = 1; i <= 20; i++) {
            CHECK.due("placing " + i + " after clear()", page.place(7, 0, 0), i);
        }
    }

    // Promise 5: "(Document and picture stay.)"
    private static void clearLeavesDocumentAndPicture() {
        new Sight(Scenes::document).unchanged(CHECK, "clear() of a draft", p -> {
            p.shape(7, 3, 1, NONE);
            p.place(0, 1, 1);
            p.paint(0, 1, 9);
            p.paint(1, 1, 9);
            p.clear();
            return 0;
        }, 0);
    }

    private static void clearOfAnEmptyDraft() {
        Sight.Question clear = p -> {
            p.clear();
            p.clear();
            return 0;
        };
        NEW.unchanged(CHECK, "clear() of a new object", clear, 0);
        new Sight(Scenes::document).unchanged(CHECK, "clear() of an empty draft", clear, 0);
    }

    // Promise 6: "one of kind 2 with all placings in order (also when there are none)"
    private static void encodeWithoutPlacings() {
        LayeredPage page = new LayeredPage();
        page.shape(1, 1, 1, NONE);
        CHECK.due("encode(0) without placings", page.encode(0), 25);
        Documents.due(CHECK, "no placings", page, 80, 71, 1, 0, 5, 0, 0, 128, 0, 0, 2, 0, 0,
                3, 0, 3, 0, 0, 0, 4, 0, 3, 0, 0, 0);
        CHECK.due("decode() without placings", page.decode(), 0);
        CHECK.due("placings() of none", page.placings(), 0);
        for (int i = 0; i < 20; i++) {
            page.place(0, i % 16, 15 - i % 16);
        }
        page.encode(0);
        CHECK.due("LENGTH of 20 placings", page.octet(12), 40);
        for (int i = 0; i < 20; i++) {
            CHECK.due("shape of placing " + i, page.octet(13 + 2 * i), 0);
            CHECK.due("spot of placing " + i, page.octet(14 + 2 * i), 16 * (i % 16) + 15 - i % 16);
        }
    }

    // Promise 6: "both with so many slices"
    private static void encodeWithEverySliceNumber() {
        for (int slices = 0; slices <= 10; slices++) {
            LayeredPage page = new LayeredPage();
            Reference reference = new Reference();
            page.paint(0, 0, 63);
            reference.paint(0, 0, 63);
            CHECK.due("encode(" + slices + ")", page.encode(slices), reference.encode(slices));
            CHECK.due("slices of GROUND", page.octet(8), slices);
            CHECK.due("slices of INK", page.octet(11 + page.octet(7)), slices);
            CHECK.due("decode()", page.decode(), 0);
        }
    }

    // Promise 6: "Refused, answering NONE, when slices is not 0 .. 10."
    private static void encodeWithWrongSlices() {
        int[] wrong = {LOW, -10, -1, 11, 12, 256, 266, HIGH};
        for (int slices : wrong) {
            NEW.unchanged(CHECK, "encode(" + slices + ")", p -> p.encode(slices), NONE);
            DRAFT.unchanged(CHECK, "encode(" + slices + ")", p -> p.encode(slices), NONE);
        }
    }

    // Promise 6: "the document becomes": nothing of a longer one is left
    private static void encodeReplacesTheDocument() {
        LayeredPage page = new LayeredPage();
        Documents.load(page, Documents.repeated(300, 255));
        CHECK.due("encode(0) over 300 bytes", page.encode(0), EMPTY.length);
        Documents.due(CHECK, "encode(0) over 300 bytes", page, EMPTY);
        CHECK.due("octet(299)", page.octet(299), NONE);
        page.cut(0);
        CHECK.due("encode(0) over none", page.encode(0), EMPTY.length);
        Documents.due(CHECK, "encode(0) over none", page, EMPTY);
    }

    private static void encodeLeavesDraftAndPicture() {
        Sight written = new Sight(p -> {
            Scenes.draft(p);
            p.encode(4);
        });
        // The draft is not worn by the slices that were left out.
        written.unchanged(CHECK, "encode(4) again", p -> {
            p.encode(0);
            p.encode(10);
            return p.encode(4);
        }, written(4));
        LayeredPage page = new LayeredPage();
        Scenes.draft(page);
        long glyph = page.glyph(0);
        page.encode(10);
        CHECK.due("glyph(0) after encode()", page.glyph(0), glyph);
        CHECK.due("shapes() after encode()", page.shapes(), 2);
        CHECK.due("place() after encode()", page.place(0, 0, 0), 6);
        CHECK.due("shape() after encode()", page.shape(0, 1, 1, NONE), 3);
    }

    private static int written(int slices) {
        LayeredPage page = new LayeredPage();
        Scenes.draft(page);
        return page.encode(slices);
    }

    // Promise 6: "(It never needs more than 1200 bytes.)": a full draft of bits that are hard to foresee
    private static void encodeNeverNeedsMore() {
        for (int run = 0; run < 300; run++) {
            Dice dice = new Dice(5000 + run);
            LayeredPage page = new LayeredPage();
            Reference reference = new Reference();
            long pattern = dice.bits();
            for (int k = 0; k < 8; k++) {
                long bits = run % 3 == 0 ? dice.bits() : pattern >>> k | pattern << (64 - k);
                page.shape(bits, 8, 8, run % 2 == 0 ? NONE : k - 1);
                reference.shape(bits, 8, 8, run % 2 == 0 ? NONE : k - 1);
            }
            for (int i = 0; i < 20; i++) {
                page.place(7, i % 16, 9);
                reference.place(7, i % 16, 9);
            }
            for (int y = 0; y < 12; y++) {
                long row = (dice.bits() & 0x0101010101010101L) * (run % 5 == 0 ? 21 : 63);
                row = y < 8 ? row : row & 0xFFFFFFFFL;
                page.paint(y / 8, y % 8, row);
                reference.paint(y / 8, y % 8, row);
            }
            int length = page.encode(10);
            CHECK.due("length of a full draft", length, reference.encode(10));
            CHECK.due("at most 1200", length <= 1200, true);
            CHECK.due("decode() of a full draft", page.decode(), 0);
        }
    }
}
