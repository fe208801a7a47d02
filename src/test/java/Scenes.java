/** Ways to an object. Where there are a draft, a document and a picture, they have nothing in common. */
final class Scenes {
    private static final int NONE = LayeredPage.NONE;

    private Scenes() {
    }

    static void nothing(LayeredPage page) {
        // A new object is what is wanted.
    }

    /** A picture with two shapes, three placings and both layers; an empty draft, no document. */
    static void picture(LayeredPage page) {
        page.shape(0x070507L, 3, 3, NONE);
        page.shape(0x1F00001FL, 5, 4, 0);
        page.place(0, 2, 1);
        page.place(1, 13, 14);
        page.place(1, 6, 6);
        page.paint(0, 0, 0x0102030405060708L);
        page.paint(0, 7, 0x3F00110022003300L);
        page.paint(1, 0, 0x0A141E28L);
        page.paint(1, 3, 0x3F3E3D3CL);
        page.encode(10);
        page.decode();
        page.clear();
        page.cut(0);
    }

    /** The picture, a document with another one that has a byte too many, and still an empty draft. */
    static void document(LayeredPage page) {
        picture(page);
        page.shape(0x0F0FL, 4, 2, NONE);
        page.place(0, 9, 9);
        page.paint(0, 3, 0x2020202020202020L);
        page.paint(1, 2, 0x10203000L);
        page.encode(7);
        page.alter(page.length(), 99);
        page.clear();
    }

    /** The picture, the document, and a draft that is neither empty nor full. */
    static void draft(LayeredPage page) {
        document(page);
        drafted(page, 3, 5);
    }

    /** The picture, the document, and a draft that can take no shape and no placing more. */
    static void fullDraft(LayeredPage page) {
        document(page);
        drafted(page, 8, 20);
    }

    private static void drafted(LayeredPage page, int shapes, int placings) {
        for (int k = 0; k < shapes; k++) {
            page.shape(0x030100L + k, 3, 3, k % 3 - 1);
        }
        for (int i = 0; i < placings; i++) {
            page.place(i % shapes, 15 - i % 16, 3 * i % 16);
        }
        for (int y = 0; y < 8; y++) {
            page.paint(0, y, 0x0706050403020100L * (y + 1));
        }
        for (int y = 0; y < 4; y++) {
            page.paint(1, y, 0x03020100L * (y + 5));
        }
    }
}
