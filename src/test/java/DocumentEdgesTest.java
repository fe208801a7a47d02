import java.util.Arrays;

/** The boundary cases of promises 7 to 10. A test has its sentence above it. */
final class DocumentEdgesTest {
    private static final int NONE = LayeredPage.NONE;
    private static final int LOW = Integer.MIN_VALUE;
    private static final int HIGH = Integer.MAX_VALUE;
    private static final Check CHECK = new Check();
    private static final Sight NEW = new Sight(Scenes::nothing);
    private static final Sight FULL = new Sight(Scenes::fullDraft);
    /** How many bytes the document of that scene has. */
    private static final int LENGTH = lengthOfTheScene();

    public static void main(String[] args) {
        lengthOfNone();
        lengthAfterCutsAndAdditions();
        octetOfNone();
        octetBehindTheEnd();
        octetsAreTheWholeByte();
        alterWithinTheDocument();
        alterAddsAtTheLength();
        alterFarFromTheDocument();
        alterToNoByte();
        alterAtTwelveHundred();
        documentOfTwelveHundred();
        cutToItsLengthAndToNone();
        cutToWhatIsNotThere();
        cutBytesAreGone();
        CHECK.end();
    }

    private static int lengthOfTheScene() {
        LayeredPage page = new LayeredPage();
        Scenes.fullDraft(page);
        return page.length();
    }

    private static LayeredPage scene() {
        LayeredPage page = new LayeredPage();
        Scenes.fullDraft(page);
        return page;
    }

    // Promise 7: "How many bytes the document has.": none
    private static void lengthOfNone() {
        NEW.unchanged(CHECK, "length() of a new object", p -> p.length(), 0);
        LayeredPage page = scene();
        page.cut(0);
        CHECK.due("length() after cut(0)", page.length(), 0);
        page.decode();
        CHECK.due("length() after a fault", page.length(), 0);
        page.clear();
        CHECK.due("length() after clear()", page.length(), 0);
    }

    // Promise 7: "How many bytes the document has.": one that was cut or added to
    private static void lengthAfterCutsAndAdditions() {
        FULL.unchanged(CHECK, "length()", p -> p.length(), LENGTH);
        LayeredPage page = scene();
        for (int more = 1; more <= 20; more++) {
            page.alter(LENGTH + more - 1, more);
            CHECK.due("length() with " + more + " more", page.length(), LENGTH + more);
        }
        for (int n = LENGTH + 20; n >= 0; n--) {
            page.cut(n);
            CHECK.due("length() after cut(" + n + ")", page.length(), n);
        }
        page = scene();
        page.alter(0, 0);
        page.alter(LENGTH - 1, 0);
        CHECK.due("length() after changes within", page.length(), LENGTH);
        page.alter(LENGTH + 1, 0);
        page.cut(LENGTH + 1);
        CHECK.due("length() after refusals", page.length(), LENGTH);
    }

    // Promise 8: "NONE when there is none."
    private static void octetOfNone() {
        int[] wrong = {LOW, -1200, -256, -1, LENGTH, LENGTH + 1, 1199, 1200, 1201, 65536, HIGH};
        for (int k : wrong) {
            FULL.unchanged(CHECK, "octet(" + k + ")", p -> p.octet(k), NONE);
            NEW.unchanged(CHECK, "new: octet(" + k + ")", p -> p.octet(k), NONE);
        }
        NEW.unchanged(CHECK, "new: octet(0)", p -> p.octet(0), NONE);
        FULL.unchanged(CHECK, "octet(0)", p -> p.octet(0), 80);
        FULL.unchanged(CHECK, "the last octet", p -> p.octet(LENGTH - 1), 99);
    }

    // Promise 8: "NONE when there is none.": there was one
    private static void octetBehindTheEnd() {
        LayeredPage page = scene();
        page.cut(5);
        CHECK.due("octet(4) after cut(5)", page.octet(4), 5);
        for (int k = 5; k <= LENGTH; k++) {
            CHECK.due("octet(" + k + ") after cut(5)", page.octet(k), NONE);
        }
        page.clear();
        page.encode(0);
        CHECK.due("octet(16) of a short document", page.octet(16), 0);
        CHECK.due("octet(17) of a short document", page.octet(17), NONE);
    }

    // "a row of at most 1200 bytes 0 .. 255"
    private static void octetsAreTheWholeByte() {
        LayeredPage page = new LayeredPage();
        for (int v = 0; v < 256; v++) {
            CHECK.due("alter(0, " + v + ")", page.alter(0, v), true);
            CHECK.due("octet(0) of " + v, page.octet(0), v);
        }
        CHECK.due("length() of one byte", page.length(), 1);
    }

    // Promise 9: "Byte k of the document becomes v": the first and the last, and no other
    private static void alterWithinTheDocument() {
        LayeredPage page = new LayeredPage();
        Documents.load(page, 1, 2, 3, 4);
        CHECK.due("alter(0, 255)", page.alter(0, 255), true);
        Documents.due(CHECK, "alter(0, 255)", page, 255, 2, 3, 4);
        CHECK.due("alter(3, 0)", page.alter(3, 0), true);
        Documents.due(CHECK, "alter(3, 0)", page, 255, 2, 3, 0);
        CHECK.due("alter(3, 0) again", page.alter(3, 0), true);
        Documents.due(CHECK, "alter(3, 0) again", page, 255, 2, 3, 0);
        Sight changed = new Sight(Scenes::draft);
        changed.unchanged(CHECK, "a byte there and back", p -> {
            boolean there = p.alter(0, 1);
            return Sight.number(there && p.alter(0, 80));
        }, true);
    }

    // Promise 9: "or, when k is its length, v is added to it"
    private static void alterAddsAtTheLength() {
        LayeredPage page = new LayeredPage();
        for (int k = 0; k < 100; k++) {
            CHECK.due("alter(" + (k + 1) + ") of " + k + " bytes", page.alter(k + 1, 7), false);
            CHECK.due("alter(" + k + ") of " + k + " bytes", page.alter(k, 255 - k), true);
            CHECK.due("length() of " + (k + 1), page.length(), k + 1);
            CHECK.due("octet(" + k + ")", page.octet(k), 255 - k);
        }
        page = scene();
        CHECK.due("alter at the length", page.alter(LENGTH, 0), true);
        CHECK.due("the octet there", page.octet(LENGTH), 0);
        CHECK.due("length() with it", page.length(), LENGTH + 1);
        page.cut(LENGTH);
        CHECK.due("document when it is cut off", Sight.document(page), Sight.document(scene()));
    }

    // Promise 9: "refused, answering false, when k is not 0 .. the length"
    private static void alterFarFromTheDocument() {
        int[] wrong = {LOW, -1200, -1, LENGTH + 1, LENGTH + 2, 1199, 1201, 65536, HIGH};
        for (int k : wrong) {
            FULL.unchanged(CHECK, "alter(" + k + ", 0)", p -> Sight.number(p.alter(k, 0)), false);
            FULL.unchanged(CHECK, "alter(" + k + ", 255)", p -> Sight.number(p.alter(k, 255)), false);
            NEW.unchanged(CHECK, "new: alter(" + k + ", 1)", p -> Sight.number(p.alter(k, 1)), false);
        }
        NEW.unchanged(CHECK, "new: alter(1, 80)", p -> Sight.number(p.alter(1, 80)), false);
    }

    // Promise 9: "or v is not 0 .. 255"
    private static void alterToNoByte() {
        int[] wrong = {LOW, -256, -255, -1, 256, 257, 511, 65536, HIGH};
        for (int v : wrong) {
            FULL.unchanged(CHECK, "alter(0, " + v + ")", p -> Sight.number(p.alter(0, v)), false);
            FULL.unchanged(CHECK, "alter(last, " + v + ")", p -> Sight.number(p.alter(LENGTH - 1, v)), false);
            FULL.unchanged(CHECK, "alter(length, " + v + ")", p -> Sight.number(p.alter(LENGTH, v)), false);
            NEW.unchanged(CHECK, "new: alter(0, " + v + ")", p -> Sight.number(p.alter(0, v)), false);
        }
    }

    // Promise 9: "k is 1200"
    private static void alterAtTwelveHundred() {
        FULL.unchanged(CHECK, "alter(1200, 0)", p -> Sight.number(p.alter(1200, 0)), false);
        NEW.unchanged(CHECK, "new: alter(1200, 0)", p -> Sight.number(p.alter(1200, 0)), false);
    }

    /**
     * "THE DOCUMENT is a row of at most 1200 bytes". In 512 calls no document grows so long, and what is answered
     * behind them is free; but no call may ever fail, and this program refuses a byte more there, too.
     */
    private static void documentOfTwelveHundred() {
        LayeredPage page = new LayeredPage();
        for (int k = 0; k < 1200; k++) {
            CHECK.due("alter(" + k + ", v)", page.alter(k, k % 251), true);
        }
        CHECK.due("alter(1200, 1) of 1200 bytes", page.alter(1200, 1), false);
        CHECK.due("alter(1201, 1) of 1200 bytes", page.alter(1201, 1), false);
        CHECK.due("length() of 1200 bytes", page.length(), 1200);
        CHECK.due("octet(1199)", page.octet(1199), 1199 % 251);
        CHECK.due("octet(1200)", page.octet(1200), NONE);
        CHECK.due("alter(1199, 255)", page.alter(1199, 255), true);
        CHECK.due("octet(1199) again", page.octet(1199), 255);
        CHECK.due("cut(1201)", page.cut(1201), false);
        CHECK.due("cut(1200)", page.cut(1200), true);
        CHECK.due("decode() of 1200 bytes", page.decode(), 1);
        CHECK.due("encode(10) over 1200 bytes", page.encode(10), 25);
        CHECK.due("decode() of it", page.decode(), 0);
    }

    // Promise 10: "The document keeps its first n bytes."
    private static void cutToItsLengthAndToNone() {
        FULL.unchanged(CHECK, "cut(length)", p -> Sight.number(p.cut(LENGTH)), true);
        NEW.unchanged(CHECK, "new: cut(0)", p -> Sight.number(p.cut(0)), true);
        long[] whole = Sight.document(scene());
        for (int n = 0; n <= LENGTH; n++) {
            LayeredPage page = scene();
            CHECK.due("cut(" + n + ")", page.cut(n), true);
            CHECK.due("document after cut(" + n + ")", Sight.document(page), Arrays.copyOf(whole, n));
        }
    }

    // Promise 10: "refused, answering false, when n is not 0 .. its length"
    private static void cutToWhatIsNotThere() {
        int[] wrong = {LOW, -1200, -1, LENGTH + 1, 1200, 1201, HIGH};
        for (int n : wrong) {
            FULL.unchanged(CHECK, "cut(" + n + ")", p -> Sight.number(p.cut(n)), false);
            NEW.unchanged(CHECK, "new: cut(" + n + ")", p -> Sight.number(p.cut(n)), false);
        }
        NEW.unchanged(CHECK, "new: cut(1)", p -> Sight.number(p.cut(1)), false);
        LayeredPage page = scene();
        page.cut(3);
        CHECK.due("cut(4) after cut(3)", page.cut(4), false);
        CHECK.due("length() after it", page.length(), 3);
        CHECK.due("cut(3) after cut(3)", page.cut(3), true);
    }

    // Promise 10: "keeps its first n bytes": the others don't come back
    private static void cutBytesAreGone() {
        LayeredPage page = new LayeredPage();
        Documents.load(page, 80, 71, 1, 0, 5, 0, 0, 255, 255, 255, 2, 0, 2, 0, 0);
        page.cut(7);
        CHECK.due("alter(8, 1) behind a cut", page.alter(8, 1), false);
        page.alter(4, 2);
        CHECK.due("decode() of a code that was cut off", page.decode(), 0);
        CHECK.due("glyph(0) of it", page.glyph(0), 0);
        page.alter(7, 1);
        Documents.due(CHECK, "grown behind a cut", page, 80, 71, 1, 0, 2, 0, 0, 1);
        page.cut(0);
        page.shape(0, 1, 1, NONE);
        page.encode(0);
        Documents.due(CHECK, "written behind a cut", page, 80, 71, 1, 0, 5, 0, 0, 0, 0, 0, 2, 0, 0,
                3, 0, 3, 0, 0, 0, 4, 0, 3, 0, 0, 0);
    }
}
