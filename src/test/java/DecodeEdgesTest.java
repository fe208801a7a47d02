/** The boundary cases of promise 11. A test has its sentence above it. */
final class DecodeEdgesTest {
    private static final int NONE = LayeredPage.NONE;
    private static final int[] START = {80, 71};
    private static final int[] SHAPE = {1, 0, 2, 0, 0};
    private static final int[] NO_PLACINGS = {2, 0, 0};
    private static final int[] PLACING = {2, 0, 2, 0, 0};
    private static final int[] GROUND = {3, 0, 1, 0};
    private static final int[] INK = {4, 0, 1, 0};
    private static final Check CHECK = new Check();

    public static void main(String[] args) {
        startThatIsNotThere();
        fewerThanThreeBytes();
        fewerThanLength();
        kindThatIsNone();
        sixteenChunksBefore();
        eightShapesBefore();
        shapeOfLengthBelowTwo();
        firstByteAboveTheShapesBefore();
        secondByteOfNoSides();
        placingsOfOddLength();
        moreThanTwentyPlacings();
        placingOfNoShapeBefore();
        layerThatCameBefore();
        layerOfLengthNought();
        layerOfElevenSlices();
        startComesFirst();
        sizeComesBeforeKind();
        sizeComesBeforeWhatIsInside();
        kindComesBeforeWhatIsInside();
        chunkComesBeforeChunk();
        everyFaultByteByByte();
        readLeavesDocumentAndDraft();
        readReplacesThePicture();
        readAfterAFault();
        pictureStaysWhenTheDocumentChanges();
        CHECK.end();
    }

    private static int[] document(int[]... chunks) {
        return Documents.join(START, Documents.join(chunks));
    }

    /** The fault is answered, and all is as it was, whether there was a picture before or none. */
    private static void fault(String name, int fault, int[] bytes) {
        Sight without = new Sight(p -> Documents.load(p, bytes));
        without.unchanged(CHECK, name + ": decode()", p -> p.decode(), fault);
        Sight with = new Sight(p -> {
            Scenes.picture(p);
            Documents.load(p, bytes);
        });
        with.unchanged(CHECK, name + ": decode() over a picture", p -> p.decode(), fault);
    }

    /** Nothing is wrong, and the picture has so many shapes and placings now. */
    private static void right(String name, int shapes, int placings, int[] bytes) {
        LayeredPage page = new LayeredPage();
        Scenes.picture(page);
        Documents.load(page, bytes);
        CHECK.due(name + ": decode()", page.decode(), 0);
        CHECK.due(name + ": shapes()", page.shapes(), shapes);
        CHECK.due(name + ": placings()", page.placings(), placings);
        CHECK.due(name + ": cell(0, 7, 7)", page.cell(0, 7, 7), 0);
    }

    // "1: the document does not begin with 80, 71."
    private static void startThatIsNotThere() {
        fault("no bytes", 1, Documents.bytes());
        fault("80 alone", 1, Documents.bytes(80));
        fault("71 alone", 1, Documents.bytes(71));
        fault("71, 80", 1, Documents.bytes(71, 80));
        fault("80, 80", 1, Documents.bytes(80, 80));
        fault("71, 71", 1, Documents.bytes(71, 71));
        fault("79, 71", 1, Documents.bytes(79, 71));
        fault("81, 71", 1, Documents.bytes(81, 71));
        fault("80, 70", 1, Documents.bytes(80, 70));
        fault("80, 72", 1, Documents.bytes(80, 72));
        fault("0, 80, 71", 1, Documents.bytes(0, 80, 71));
        right("80, 71", 0, 0, START);
    }

    // "2: fewer than three bytes are left"
    private static void fewerThanThreeBytes() {
        for (int kind = 0; kind <= 5; kind++) {
            fault("one byte " + kind, 2, document(Documents.bytes(kind)));
            fault("two bytes " + kind, 2, document(Documents.bytes(kind, 0)));
            fault("one byte " + kind + " behind a chunk", 2, document(SHAPE, PLACING, Documents.bytes(kind)));
            fault("two bytes " + kind + " behind a chunk", 2, document(SHAPE, PLACING, Documents.bytes(kind, 0)));
        }
        right("three bytes", 0, 0, document(NO_PLACINGS));
        right("three bytes behind a chunk", 1, 1, document(SHAPE, PLACING, NO_PLACINGS));
    }

    // "2: .. or fewer than LENGTH behind these"
    private static void fewerThanLength() {
        fault("one of none", 2, document(Documents.bytes(3, 0, 1)));
        fault("two of one", 2, document(Documents.bytes(3, 0, 2, 0)));
        fault("256 of one", 2, document(Documents.bytes(3, 1, 0, 0)));
        fault("65535 of one", 2, document(Documents.bytes(3, 255, 255, 0)));
        fault("one too few behind a chunk", 2, document(SHAPE, Documents.bytes(2, 0, 4, 0, 0, 0)));
        right("all of LENGTH", 0, 0, document(Documents.bytes(3, 0, 2, 0, 0)));
        right("all of LENGTH behind a chunk", 1, 2, document(SHAPE, Documents.bytes(2, 0, 4, 0, 0, 0, 0)));
        right("256 of 256", 0, 0, document(Documents.bytes(3, 1, 0), new int[256]));
        LayeredPage page = new LayeredPage();
        Documents.load(page, document(Documents.bytes(3, 1, 0), new int[255]));
        CHECK.due("256 of 255: decode()", page.decode(), 2);
    }

    // "3: its KIND is not 1 .. 4"
    private static void kindThatIsNone() {
        int[] kinds = {0, 5, 6, 127, 128, 255};
        for (int kind : kinds) {
            fault("kind " + kind, 3, document(Documents.bytes(kind, 0, 0)));
            fault("kind " + kind + " with bytes", 3, document(Documents.bytes(kind, 0, 2, 0, 0)));
            fault("kind " + kind + " behind chunks", 3, document(SHAPE, GROUND, Documents.bytes(kind, 0, 0)));
        }
        right("kinds 1 to 4", 1, 1, document(SHAPE, PLACING, GROUND, INK));
        right("kinds 4 to 1", 1, 0, document(INK, GROUND, NO_PLACINGS, SHAPE));
    }

    // "3: .. or 16 chunks came before it"
    private static void sixteenChunksBefore() {
        int[] many = Documents.join(Documents.repeated(8, SHAPE), Documents.repeated(6, PLACING), GROUND, INK);
        right("16 chunks", 8, 6, document(many));
        fault("a seventeenth of placings", 3, document(many, PLACING));
        fault("a seventeenth of none", 3, document(many, NO_PLACINGS));
        right("15 chunks", 0, 0, document(Documents.repeated(15, NO_PLACINGS)));
        right("16 chunks of none", 0, 0, document(Documents.repeated(16, NO_PLACINGS)));
        fault("17 chunks of none", 3, document(Documents.repeated(17, NO_PLACINGS)));
        fault("18 chunks of none", 3, document(Documents.repeated(18, NO_PLACINGS)));
        fault("a seventeenth shape", 3, document(Documents.repeated(16, NO_PLACINGS), SHAPE));
        fault("a seventeenth layer", 3, document(Documents.repeated(16, NO_PLACINGS), GROUND));
    }

    // "4: it is of kind 1, and eight shapes came before it"
    private static void eightShapesBefore() {
        right("eight shapes", 8, 0, document(Documents.repeated(8, SHAPE)));
        fault("nine shapes", 4, document(Documents.repeated(9, SHAPE)));
        fault("nine shapes among others", 4, document(Documents.repeated(8, SHAPE), PLACING, GROUND, SHAPE));
        fault("a ninth shape with a base", 4, document(Documents.repeated(8, SHAPE), Documents.bytes(1, 0, 2, 8, 0)));
        right("eight shapes and others", 8, 1, document(Documents.repeated(8, SHAPE), PLACING, GROUND, INK));
    }

    // "4: .. or LENGTH is below 2"
    private static void shapeOfLengthBelowTwo() {
        fault("a shape of no bytes", 4, document(Documents.bytes(1, 0, 0)));
        fault("a shape of one byte", 4, document(Documents.bytes(1, 0, 1, 0)));
        fault("a shape of no bytes, a chunk behind", 4, document(Documents.bytes(1, 0, 0), SHAPE));
        fault("a shape of one byte, a chunk behind", 4, document(Documents.bytes(1, 0, 1, 0), SHAPE));
        right("a shape of two bytes", 1, 0, document(Documents.bytes(1, 0, 2, 0, 0)));
        right("a shape of three bytes", 1, 0, document(Documents.bytes(1, 0, 3, 0, 0, 0)));
    }

    // "4: .. or its first byte is above the number of shapes before it"
    private static void firstByteAboveTheShapesBefore() {
        for (int before = 0; before < 8; before++) {
            int[] shapes = Documents.repeated(before, SHAPE);
            int[] last = Documents.bytes(1, 0, 2, before, 0);
            right("the last as base of " + before, before + 1, 0, document(shapes, last));
            fault("itself as base of " + before, 4, document(shapes, Documents.bytes(1, 0, 2, before + 1, 0)));
            fault("255 as base of " + before, 4, document(shapes, Documents.bytes(1, 0, 2, 255, 0)));
        }
        fault("a base that comes later", 4, document(SHAPE, Documents.bytes(1, 0, 2, 3, 0), SHAPE));
        right("a base of several", 3, 0, document(SHAPE, Documents.bytes(1, 0, 2, 1, 0, 1, 0, 2, 1, 0)));
        fault("placings are no shapes", 4, document(NO_PLACINGS, Documents.bytes(1, 0, 2, 1, 0)));
    }

    // "4: .. or its second byte does not stand for a w and an h of 1 .. 8"
    private static void secondByteOfNoSides() {
        int[] wrong = {0x08, 0x0F, 0x78, 0x7F, 0x80, 0x87, 0x88, 0xF0, 0xF7, 0xFF};
        for (int octet : wrong) {
            fault("sides " + octet, 4, document(Documents.bytes(1, 0, 2, 0, octet)));
        }
        for (int octet = 0; octet < 256; octet++) {
            LayeredPage page = new LayeredPage();
            Documents.load(page, document(SHAPE, Documents.bytes(1, 0, 2, 1, octet)));
            boolean sides = octet / 16 <= 7 && octet % 16 <= 7;
            CHECK.due("sides " + octet + " with a base: decode()", page.decode(), sides ? 0 : 4);
            CHECK.due("sides " + octet + " with a base: shapes()", page.shapes(), sides ? 2 : NONE);
        }
    }

    // "5: it is of kind 2, and LENGTH is odd"
    private static void placingsOfOddLength() {
        for (int size = 1; size <= 41; size += 2) {
            fault("LENGTH " + size, 5, document(SHAPE, Documents.bytes(2, 0, size), new int[size]));
            int even = size - 1;
            right("LENGTH " + even, 1, even / 2, document(SHAPE, Documents.bytes(2, 0, even), new int[even]));
        }
        fault("an odd LENGTH without shapes", 5, document(Documents.bytes(2, 0, 1, 0)));
        fault("an odd LENGTH, a chunk behind", 5, document(SHAPE, Documents.bytes(2, 0, 1, 0), GROUND));
    }

    // "5: .. or there are more than 20 placings with it"
    private static void moreThanTwentyPlacings() {
        for (int first = 0; first <= 20; first++) {
            int[] one = Documents.chunk(2, new int[2 * first]);
            int[] rest = Documents.chunk(2, new int[2 * (20 - first)]);
            int[] more = Documents.chunk(2, new int[2 * (21 - first)]);
            right(first + " and the rest of 20", 1, 20, document(SHAPE, one, rest));
            fault(first + " and the rest of 21", 5, document(SHAPE, one, more));
        }
        fault("30 placings", 5, document(SHAPE, Documents.chunk(2, new int[60])));
        int[] twenty = Documents.chunk(2, new int[40]);
        right("20 placings and none", 1, 20, document(SHAPE, twenty, NO_PLACINGS));
        fault("20 placings and one of no shape", 5, document(SHAPE, twenty, Documents.bytes(2, 0, 2, 1, 0)));
        right("20 placings in ten chunks", 1, 20, document(SHAPE, Documents.repeated(10, 2, 0, 4, 0, 0, 0, 0)));
        fault("21 placings in ten chunks", 5,
                document(SHAPE, Documents.repeated(9, 2, 0, 4, 0, 0, 0, 0), Documents.chunk(2, new int[6])));
    }

    // "5: .. or a shape's number in it is not that of a shape before it"
    private static void placingOfNoShapeBefore() {
        fault("no shape", 5, document(PLACING));
        fault("a shape that comes later", 5, document(PLACING, SHAPE));
        for (int before = 1; before <= 8; before++) {
            int[] shapes = Documents.repeated(before, SHAPE);
            right("the last of " + before, before, 1, document(shapes, Documents.bytes(2, 0, 2, before - 1, 255)));
            fault("the next of " + before, 5, document(shapes, Documents.bytes(2, 0, 2, before, 0)));
            fault("255 of " + before, 5, document(shapes, Documents.bytes(2, 0, 2, 255, 0)));
        }
        fault("the last placing of three", 5, document(SHAPE, Documents.bytes(2, 0, 6, 0, 0, 0, 0, 1, 0)));
        fault("the first placing of three", 5, document(SHAPE, Documents.bytes(2, 0, 6, 1, 0, 0, 0, 0, 0)));
        fault("behind placings that are right", 5, document(SHAPE, PLACING, Documents.bytes(2, 0, 2, 1, 0)));
        right("shapes between placings", 2, 2, document(SHAPE, PLACING, SHAPE, Documents.bytes(2, 0, 2, 1, 0)));
        right("a spot is no shape's number", 1, 1, document(SHAPE, Documents.bytes(2, 0, 2, 0, 255)));
    }

    // "6: it is of kind 3 or 4, and one of that kind came before"
    private static void layerThatCameBefore() {
        fault("GROUND twice", 6, document(GROUND, GROUND));
        fault("INK twice", 6, document(INK, INK));
        fault("GROUND twice with others between", 6, document(GROUND, SHAPE, INK, PLACING, GROUND));
        fault("INK twice with others between", 6, document(INK, SHAPE, GROUND, PLACING, INK));
        right("GROUND and INK", 0, 0, document(GROUND, INK));
        right("INK and GROUND", 0, 0, document(INK, GROUND));
        LayeredPage page = new LayeredPage();
        Documents.load(page, document(GROUND, INK));
        CHECK.due("both: decode()", page.decode(), 0);
        CHECK.due("both: decode() again", page.decode(), 0);
        CHECK.due("both: decode() for the third time", page.decode(), 0);
    }

    // "6: .. or LENGTH is 0"
    private static void layerOfLengthNought() {
        fault("GROUND of no bytes", 6, document(Documents.bytes(3, 0, 0)));
        fault("INK of no bytes", 6, document(Documents.bytes(4, 0, 0)));
        fault("GROUND of no bytes, INK behind", 6, document(Documents.bytes(3, 0, 0), INK));
        right("GROUND of one byte", 0, 0, document(Documents.bytes(3, 0, 1, 10)));
        right("INK of one byte", 0, 0, document(Documents.bytes(4, 0, 1, 10)));
    }

    // "6: .. or its first byte is above 10"
    private static void layerOfElevenSlices() {
        int[] wrong = {11, 12, 16, 127, 128, 255};
        for (int kind = 3; kind <= 4; kind++) {
            for (int slices : wrong) {
                fault(slices + " slices of kind " + kind, 6, document(Documents.bytes(kind, 0, 1, slices)));
                fault(slices + " slices and a code", 6, document(Documents.bytes(kind, 0, 3, slices, 0, 0)));
            }
            for (int slices = 0; slices <= 10; slices++) {
                right(slices + " slices of kind " + kind, 0, 0, document(Documents.bytes(kind, 0, 3, slices, 0, 0)));
            }
        }
    }

    // "the number of the first of these faults": 1 before all
    private static void startComesFirst() {
        int[][] others = {{1}, {5, 0, 0}, {1, 0, 0}, {2, 0, 1, 0}, {3, 0, 0}};
        for (int i = 0; i < others.length; i++) {
            fault("a start and fault " + (i + 2), 1, Documents.join(Documents.bytes(80, 72), others[i]));
            fault("fault " + (i + 2) + " behind the start", i + 2, document(others[i]));
        }
    }

    // "for each of them in this order": 2 before 3
    private static void sizeComesBeforeKind() {
        fault("a kind of one byte", 2, document(Documents.bytes(9)));
        fault("a kind of two bytes", 2, document(Documents.bytes(0, 0)));
        fault("a kind that is too long", 2, document(Documents.bytes(5, 0, 1)));
        int[] sixteen = Documents.repeated(16, NO_PLACINGS);
        fault("a seventeenth of one byte", 2, document(sixteen, Documents.bytes(2)));
        fault("a seventeenth of two bytes", 2, document(sixteen, Documents.bytes(2, 0)));
        fault("a seventeenth that is too long", 2, document(sixteen, Documents.bytes(2, 0, 2, 0)));
        fault("an eighteenth that is too long", 3, document(sixteen, NO_PLACINGS, Documents.bytes(2, 0, 2, 0)));
    }

    // "for each of them in this order": 2 before 4, 5 and 6
    private static void sizeComesBeforeWhatIsInside() {
        fault("a short shape of LENGTH 1", 2, document(Documents.bytes(1, 0, 1)));
        fault("a short shape of a wrong base", 2, document(Documents.bytes(1, 0, 3, 9, 255)));
        fault("a short ninth shape", 2, document(Documents.repeated(8, SHAPE), Documents.bytes(1, 0, 2, 0)));
        fault("short placings of odd LENGTH", 2, document(Documents.bytes(2, 0, 3, 0, 0)));
        fault("short placings, too many", 2, document(SHAPE, Documents.bytes(2, 0, 42), new int[41]));
        fault("a short second GROUND", 2, document(GROUND, Documents.bytes(3, 0, 1)));
        fault("a short INK of 11 slices", 2, document(Documents.bytes(4, 0, 2, 11)));
    }

    // "for each of them in this order": 3 before 4, 5 and 6
    private static void kindComesBeforeWhatIsInside() {
        int[] sixteen = Documents.join(SHAPE, GROUND, INK, Documents.repeated(13, NO_PLACINGS));
        fault("a seventeenth shape of LENGTH 0", 3, document(sixteen, Documents.bytes(1, 0, 0)));
        fault("a seventeenth with a wrong base", 3, document(sixteen, Documents.bytes(1, 0, 2, 9, 0)));
        fault("seventeenth placings of odd LENGTH", 3, document(sixteen, Documents.bytes(2, 0, 1, 0)));
        fault("seventeenth placings of no shape", 3, document(sixteen, Documents.bytes(2, 0, 2, 1, 0)));
        fault("a seventeenth GROUND that came before", 3, document(sixteen, GROUND));
        fault("a seventeenth INK of LENGTH 0", 3, document(sixteen, Documents.bytes(4, 0, 0)));
    }

    // "the chunks are looked at one after the other": an earlier chunk's fault, though a later one's is lower
    private static void chunkComesBeforeChunk() {
        int[][] chunks = {{}, {}, {2, 0, 9, 0}, {7, 0, 0}, {1, 0, 0}, {2, 0, 1, 0}, {3, 0, 0}};
        for (int first = 3; first <= 6; first++) {
            for (int second = 2; second <= 6; second++) {
                String name = "fault " + first + ", then " + second;
                fault(name, first, document(chunks[first], chunks[second]));
                fault(name + " behind others", first, document(SHAPE, PLACING, chunks[first], chunks[second]));
            }
        }
        fault("a size, whatever is behind", 2, document(Documents.bytes(1, 0, 9), SHAPE));
    }

    // Each byte of a document that is right is changed to each of some others: the same fault as the reference's
    private static void everyFaultByteByByte() {
        int[] bytes = document(SHAPE,
                Documents.bytes(1, 0, 3, 1, 0x11, 200), Documents.bytes(2, 0, 4, 1, 0x34, 0, 0x56),
                Documents.bytes(3, 0, 2, 3, 150), Documents.bytes(4, 0, 3, 10, 99, 7));
        int[] values = {0, 1, 2, 3, 4, 5, 7, 8, 10, 11, 15, 16, 20, 71, 79, 80, 128, 255};
        for (int k = 0; k < bytes.length; k++) {
            LayeredPage page = new LayeredPage();
            Reference reference = new Reference();
            Documents.load(page, bytes);
            for (int i = 0; i < bytes.length; i++) {
                reference.alter(i, bytes[i]);
            }
            for (int value : values) {
                page.alter(k, value);
                reference.alter(k, value);
                String name = "byte " + k + " as " + value;
                CHECK.due(name + ": decode()", page.decode(), reference.decode());
                CHECK.due(name + ": glyph(1)", page.glyph(1), reference.glyph(1));
                CHECK.due(name + ": inked(3, 4)", page.inked(3, 4), reference.inked(3, 4));
                CHECK.due(name + ": cell(0, 0, 0)", page.cell(0, 0, 0), reference.cell(0, 0, 0));
                CHECK.due(name + ": cell(1, 1, 0)", page.cell(1, 1, 0), reference.cell(1, 1, 0));
            }
        }
    }

    private static void readLeavesDocumentAndDraft() {
        new Sight(p -> {
            Scenes.draft(p);
            p.encode(3);
            p.decode();
        }).unchanged(CHECK, "decode() again", p -> p.decode() + p.decode(), 0);
        LayeredPage page = new LayeredPage();
        Scenes.draft(page);
        CHECK.due("decode() of a byte too many", page.decode(), 2);
        CHECK.due("place() after it", page.place(2, 0, 0), 6);
        CHECK.due("shape() after it", page.shape(1, 1, 1, 2), 3);
    }

    // "answers 0, and it is the picture": nothing of the one before is left
    private static void readReplacesThePicture() {
        Sight empty = new Sight(p -> {
            Documents.load(p, START);
            p.decode();
        });
        empty.unchanged(CHECK, "a picture before", p -> {
            Scenes.picture(p);
            Documents.load(p, START);
            return p.decode();
        }, 0);
        empty.unchanged(CHECK, "a fault before", p -> {
            Documents.load(p, document(SHAPE, PLACING, Documents.bytes(3, 0, 2, 1, 255), Documents.bytes(9, 0, 0)));
            p.decode();
            Documents.load(p, START);
            return p.decode();
        }, 0);
    }

    // "eight shapes came before it", "more than 20 placings with it", "one of that kind came before": not in a
    // document that was looked at before
    private static void readAfterAFault() {
        int[] full = document(Documents.repeated(8, SHAPE), Documents.chunk(2, new int[40]), GROUND, INK);
        Sight read = new Sight(p -> {
            Documents.load(p, full);
            p.decode();
        });
        int[][] tails = {{1}, {5, 0, 0}, {1, 0, 2, 0, 0}, {2, 0, 2, 0, 0}, {3, 0, 1, 0}};
        for (int i = 0; i < tails.length; i++) {
            int[] wrong = Documents.join(full, tails[i]);
            int due = i + 2;
            read.unchanged(CHECK, "fault " + due + ", then none", p -> {
                Documents.load(p, wrong);
                int fault = p.decode();
                p.cut(full.length);
                return 10L * fault + p.decode();
            }, 10L * due);
        }
    }

    // "the picture stays as it was", also when the document that it was read from is no more
    private static void pictureStaysWhenTheDocumentChanges() {
        LayeredPage page = new LayeredPage();
        Documents.load(page, 80, 71, 1, 0, 3, 0, 0, 128, 2, 0, 2, 0, 0x11, 4, 0, 2, 1, 128);
        page.decode();
        page.alter(7, 0);
        page.alter(12, 0x22);
        page.cut(14);
        CHECK.due("glyph(0) of a document that changed", page.glyph(0), 1);
        CHECK.due("inked(1, 1) of it", page.inked(1, 1), true);
        CHECK.due("inked(2, 2) of it", page.inked(2, 2), false);
        CHECK.due("pixel(1, 1) of it", page.pixel(1, 1), 63);
        CHECK.due("decode() of it", page.decode(), 2);
        CHECK.due("coefficient(1, 0, 0) after a fault", page.coefficient(1, 0, 0), 512);
        page.cut(13);
        CHECK.due("decode() of what is left", page.decode(), 0);
        CHECK.due("inked(2, 2) of what is left", page.inked(2, 2), false);
        CHECK.due("shapes() of what is left", page.shapes(), 1);
        CHECK.due("coefficient(1, 0, 0) of what is left", page.coefficient(1, 0, 0), 0);
    }
}
