/** Promises 7 to 10: length, octet, alter, cut. */
final class DocumentTest {
    private static final int NONE = LayeredPage.NONE;
    private static final int[] FAR = {Integer.MIN_VALUE, -1200, -2, -1, 1200, 1201, 65536, Integer.MAX_VALUE};
    private static final Check CHECK = new Check();

    public static void main(String[] args) {
        lengths();
        octets();
        alterWithin();
        alterAtTheEnd();
        alterRefused();
        cutKeepsTheFirst();
        cutRefused();
        encodeAfterCut();
        CHECK.end();
    }

    private static void lengths() {
        LayeredPage page = new LayeredPage();
        CHECK.due("length() at first", page.length(), 0);
        page.alter(0, 1);
        CHECK.due("length() of one", page.length(), 1);
        page.encode(0);
        CHECK.due("length() of an encoded document", page.length(), 17);
        page.encode(10);
        CHECK.due("length() of a longer one", page.length(), 25);
        page.encode(0);
        CHECK.due("length() of a shorter one", page.length(), 17);
        CHECK.due("octet(17) behind a shorter one", page.octet(17), NONE);
        page.cut(4);
        CHECK.due("length() after cut(4)", page.length(), 4);
        page.decode();
        CHECK.due("length() after decode()", page.length(), 4);
    }

    private static void octets() {
        LayeredPage page = new LayeredPage();
        Documents.load(page, 0, 255, 128, 127);
        Documents.due(CHECK, "loaded", page, 0, 255, 128, 127);
        for (int k : FAR) {
            CHECK.due("octet(" + k + ")", page.octet(k), NONE);
        }
        CHECK.due("octet(4)", page.octet(4), NONE);
    }

    private static void alterWithin() {
        LayeredPage page = new LayeredPage();
        Documents.load(page, 1, 2, 3);
        CHECK.due("alter(0, 255)", page.alter(0, 255), true);
        CHECK.due("alter(1, 0)", page.alter(1, 0), true);
        CHECK.due("alter(2, 200)", page.alter(2, 200), true);
        Documents.due(CHECK, "altered", page, 255, 0, 200);
    }

    private static void alterAtTheEnd() {
        LayeredPage page = new LayeredPage();
        CHECK.due("alter(1, 7) of none", page.alter(1, 7), false);
        CHECK.due("alter(0, 7) of none", page.alter(0, 7), true);
        CHECK.due("alter(1, 8)", page.alter(1, 8), true);
        CHECK.due("alter(3, 8)", page.alter(3, 8), false);
        Documents.due(CHECK, "added to", page, 7, 8);
    }

    private static void alterRefused() {
        LayeredPage page = new LayeredPage();
        Documents.load(page, 5, 6);
        for (int far : FAR) {
            CHECK.due("alter(" + far + ", 1)", page.alter(far, 1), false);
            CHECK.due("alter(0, " + far + ")", page.alter(0, far), false);
            CHECK.due("alter(2, " + far + ")", page.alter(2, far), false);
        }
        CHECK.due("alter(1, 256)", page.alter(1, 256), false);
        CHECK.due("alter(2, 256)", page.alter(2, 256), false);
        Documents.due(CHECK, "refused", page, 5, 6);
    }

    private static void cutKeepsTheFirst() {
        LayeredPage page = new LayeredPage();
        Documents.load(page, 9, 8, 7, 6);
        CHECK.due("cut(4)", page.cut(4), true);
        Documents.due(CHECK, "cut to all", page, 9, 8, 7, 6);
        CHECK.due("cut(2)", page.cut(2), true);
        Documents.due(CHECK, "cut to two", page, 9, 8);
        CHECK.due("alter(3, 1) behind a cut", page.alter(3, 1), false);
        CHECK.due("alter(2, 1) behind a cut", page.alter(2, 1), true);
        Documents.due(CHECK, "grown again", page, 9, 8, 1);
        CHECK.due("cut(0)", page.cut(0), true);
        Documents.due(CHECK, "cut to none", page);
    }

    private static void cutRefused() {
        LayeredPage page = new LayeredPage();
        CHECK.due("cut(0) of none", page.cut(0), true);
        CHECK.due("cut(1) of none", page.cut(1), false);
        Documents.load(page, 9, 8);
        for (int far : FAR) {
            CHECK.due("cut(" + far + ")", page.cut(far), false);
        }
        CHECK.due("cut(3)", page.cut(3), false);
        Documents.due(CHECK, "not cut", page, 9, 8);
    }

    /** What an earlier document had behind the end is not seen again. */
    private static void encodeAfterCut() {
        LayeredPage page = new LayeredPage();
        page.shape(0x2A552A552A552AL, 7, 7, NONE);
        int length = page.encode(10);
        int[] bytes = new int[length];
        for (int k = 0; k < length; k++) {
            bytes[k] = page.octet(k);
        }
        for (int k = 0; k < length + 20; k++) {
            page.alter(k, 255);
        }
        page.cut(6);
        page.encode(10);
        Documents.due(CHECK, "encoded again", page, bytes);
    }
}
