/** Documents byte by byte. */
final class Documents {
    private Documents() {
    }

    /** The document becomes these bytes. */
    static void load(LayeredPage page, int... bytes) {
        page.cut(0);
        for (int k = 0; k < bytes.length; k++) {
            page.alter(k, bytes[k]);
        }
    }

    /** Every byte of the document, its length and what is behind it. */
    static void due(Check check, String name, LayeredPage page, int... bytes) {
        check.due(name + ": length()", page.length(), bytes.length);
        for (int k = 0; k < bytes.length; k++) {
            check.due(name + ": octet(" + k + ")", page.octet(k), bytes[k]);
        }
        check.due(name + ": octet(" + bytes.length + ")", page.octet(bytes.length), LayeredPage.NONE);
    }

    static int[] join(int[]... parts) {
        int size = 0;
        for (int[] part : parts) {
            size += part.length;
        }
        int[] all = new int[size];
        int at = 0;
        for (int[] part : parts) {
            System.arraycopy(part, 0, all, at, part.length);
            at += part.length;
        }
        return all;
    }

    static int[] bytes(int... bytes) {
        return bytes;
    }

    /** A chunk: its kind, its LENGTH and its bytes, which may be told in parts. */
    static int[] chunk(int kind, int[]... parts) {
        int[] inside = join(parts);
        return join(bytes(kind, inside.length / 256, inside.length % 256), inside);
    }

    static int[] repeated(int times, int... bytes) {
        int[] all = new int[0];
        for (int i = 0; i < times; i++) {
            all = join(all, bytes);
        }
        return all;
    }
}
