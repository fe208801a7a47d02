import java.util.Arrays;

/**
 * All that can be seen of an object that went through some calls. It is looked at in parts, each on an object of
 * its own: a look at all of it would take more calls than an object is good for.
 */
final class Sight {
    interface Calls {
        void on(LayeredPage page);
    }

    interface Question {
        long of(LayeredPage page);
    }

    private static final String[] PARTS = {"document", "pixels", "inked pixels", "layers", "shapes", "draft"};

    private final Calls before;
    private final long[][] seen = new long[PARTS.length][];

    Sight(Calls before) {
        this.before = before;
        for (int part = 0; part < PARTS.length; part++) {
            seen[part] = look(madeBy(before), part);
        }
    }

    private static LayeredPage madeBy(Calls calls) {
        LayeredPage page = new LayeredPage();
        calls.on(page);
        return page;
    }

    /** The answer is the one that is due, and the object shows the same as one that was not asked. */
    void unchanged(Check check, String call, Question asked, long want) {
        for (int part = 0; part < PARTS.length; part++) {
            LayeredPage page = madeBy(before);
            check.due(call, asked.of(page), want);
            check.due(PARTS[part] + " after " + call, look(page, part), seen[part]);
        }
    }

    void unchanged(Check check, String call, Question asked, boolean want) {
        unchanged(check, call, asked, want ? 1 : 0);
    }

    static long number(boolean answer) {
        return answer ? 1 : 0;
    }

    static long[] document(LayeredPage page) {
        return look(page, 0);
    }

    /** What the draft holds is seen in the document that it is written to, with all slices. */
    private static long[] look(LayeredPage page, int part) {
        switch (part) {
            case 1:
                return grid(16, (x, y) -> page.pixel(x, y));
            case 2:
                return grid(16, (x, y) -> number(page.inked(x, y)));
            case 3:
                return joined(grid(8, (x, y) -> page.cell(0, x, y)), grid(8, (x, y) -> page.coefficient(0, x, y)),
                        grid(4, (x, y) -> page.cell(1, x, y)), grid(4, (x, y) -> page.coefficient(1, x, y)));
            case 4:
                return joined(new long[] {page.shapes(), page.placings()}, row(8, k -> page.glyph(k)));
            case 5:
                page.encode(10);
                break;
            default:
                break;
        }
        return row(page.length(), k -> page.octet(k));
    }

    private interface Cell {
        long at(int x, int y);
    }

    private interface Place {
        long at(int k);
    }

    private static long[] grid(int size, Cell cell) {
        return row(size * size, i -> cell.at(i % size, i / size));
    }

    private static long[] row(int size, Place place) {
        long[] all = new long[size];
        for (int k = 0; k < size; k++) {
            all[k] = place.at(k);
        }
        return all;
    }

    private static long[] joined(long[]... parts) {
        return Arrays.stream(parts).flatMapToLong(Arrays::stream).toArray();
    }
}
