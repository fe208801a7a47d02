import java.util.Arrays;

/** The boundary cases of lifting, of layers' codes and of cells in "Terms". A test has its sentence above it. */
final class LayersEdgesTest {
    private static final int[] START = {80, 71};
    private static final Check CHECK = new Check();

    public static void main(String[] args) {
        lastOfALiftedRow();
        lastOfALiftedColumn();
        firstOfALiftedRow();
        rowOfTwo();
        groundHasThreeRounds();
        dividedByFourRoundsDown();
        dividedByTwoRoundsDown();
        rowsAreLiftedBeforeColumns();
        undoneInTheOppositeOrder();
        undoneAtTheEndsOfARow();
        noSlices();
        allSlices();
        slicesLeaveHighBits();
        negativeLosesNoMoreThanPositive();
        highestAndLowestCoefficients();
        leftNeighbourThatIsNotThere();
        upperNeighbourThatIsNotThere();
        bothNeighboursCount();
        signsAndLaterBitsHaveTheirContexts();
        cellsBelowNoughtAndAboveSixtyThree();
        CHECK.end();
    }

    private static String at(int i, int size) {
        return "(" + i % size + ", " + i / size + ")";
    }

    /** Paints INK, or GROUND with 64 cells: all coefficients and, undone again, all cells are due. */
    private static void lifted(String name, int[] cells, int... coefficients) {
        LayeredPage page = new LayeredPage();
        int layer = cells.length == 64 ? 0 : 1;
        int size = layer == 0 ? 8 : 4;
        for (int y = 0; y < size; y++) {
            long row = 0;
            for (int x = 0; x < size; x++) {
                row |= (long) cells[size * y + x] << (8 * x);
            }
            page.paint(layer, y, row);
        }
        page.encode(10);
        page.decode();
        for (int i = 0; i < cells.length; i++) {
            CHECK.due(name + ": coefficient " + at(i, size), page.coefficient(layer, i % size, i / size),
                    coefficients[i]);
            CHECK.due(name + ": cell " + at(i, size), page.cell(layer, i % size, i / size), cells[i]);
        }
    }

    private static int[] turned(int... square) {
        int size = square.length == 64 ? 8 : 4;
        int[] other = new int[square.length];
        for (int i = 0; i < square.length; i++) {
            other[i] = square[size * (i % size) + i / size];
        }
        return other;
    }

    private static int[] fourTimes(int... row) {
        return Documents.repeated(4, row);
    }

    /** A page that has read these coefficients of INK, or of GROUND when there are 64. */
    private static LayeredPage read(String name, int slices, int... coefficients) {
        int size = coefficients.length == 64 ? 8 : 4;
        int[][] rows = new int[size][size];
        for (int i = 0; i < coefficients.length; i++) {
            rows[i / size][i % size] = coefficients[i];
        }
        int[] code = Reference.layerCode(rows, slices);
        return loaded(name, size == 8 ? 3 : 4, slices, code);
    }

    private static LayeredPage loaded(String name, int kind, int slices, int... code) {
        LayeredPage page = new LayeredPage();
        Documents.load(page, Documents.join(START, Documents.chunk(kind, Documents.bytes(slices), code)));
        CHECK.due(name + ": decode()", page.decode(), 0);
        return page;
    }

    private static void coefficients(String name, LayeredPage page, int... due) {
        int size = due.length == 64 ? 8 : 4;
        for (int i = 0; i < due.length; i++) {
            int got = page.coefficient(size == 8 ? 0 : 1, i % size, i / size);
            CHECK.due(name + ": coefficient " + at(i, size), got, due[i]);
        }
    }

    private static void cells(String name, LayeredPage page, int... due) {
        int size = due.length == 64 ? 8 : 4;
        for (int i = 0; i < due.length; i++) {
            CHECK.due(name + ": cell " + at(i, size), page.cell(size == 8 ? 0 : 1, i % size, i / size), due[i]);
        }
    }

    // "d(i) = x(2i + 1) - (x(2i) + x(2i + 2)) / 2 for i from 0 to m / 2 - 1, where x(m) counts as x(m - 2)"
    private static void lastOfALiftedRow() {
        // d: 0 - 2, 8 - (4 + 4) / 2; s: 0 + (-2) / 4, 4 + 4 / 4; then of -1 and 5: d is 5 - (-1), s is -1 + 14 / 4
        lifted("last of a row", fourTimes(0, 0, 4, 8), 2, 6, -2, 4, 0, 0, -2, 4, 0, 0, 0, 0, 0, 0, 0, 0);
    }

    private static void lastOfALiftedColumn() {
        lifted("last of a column", turned(fourTimes(0, 0, 4, 8)),
                turned(2, 6, -2, 4, 0, 0, -2, 4, 0, 0, 0, 0, 0, 0, 0, 0));
    }

    // "s(i) = x(2i) + (d(i - 1) + d(i) + 2) / 4, where d(-1) counts as d(0)"
    private static void firstOfALiftedRow() {
        // d: 20, 0; s: 0 + 42 / 4, 0 + 22 / 4; then of 10 and 5: d is -5, s is 10 + (-8) / 4
        lifted("first of a row", fourTimes(0, 20, 0, 0), 8, -5, 20, 0, 0, 0, 20, 0, 0, 0, 0, 0, 0, 0, 0, 0);
        lifted("first of a column", turned(fourTimes(0, 20, 0, 0)),
                turned(8, -5, 20, 0, 0, 0, 20, 0, 0, 0, 0, 0, 0, 0, 0, 0));
    }

    // "for m = N, N / 2, .. 2": a row of two has one d, whose x(2) is x(0) and whose d(-1) is d(0)
    private static void rowOfTwo() {
        // d: 40 - 25, 10 - 10; s: 40 + 32 / 4, 10 + 17 / 4; then of 48 and 14: d is -34, s is 48 + (-66) / 4
        lifted("a row of two", fourTimes(40, 40, 10, 10), 31, -34, 15, 0, 0, 0, 15, 0, 0, 0, 0, 0, 0, 0, 0, 0);
    }

    // "for m = N, N / 2, .. 2", N being 8 for GROUND
    private static void groundHasThreeRounds() {
        int[] row = {0, 0, 0, 0, 0, 0, 4, 8};
        // m = 8: d 0, 0, -2, 4 and s 0, 0, 0 + 0 / 4, 4 + 4 / 4
        // m = 4, of 0, 0, 0, 5: d 0, 5 and s 0, 0 + 7 / 4; m = 2, of 0, 1: d 1 and s 0 + 4 / 4
        int[] first = {1, 1, 0, 5, 0, 0, -2, 4};
        int[] second = {0, 0, 0, 5, 0, 0, -2, 4};
        int[] others = {0, 0, 0, 0, 0, 0, -2, 4};
        int[] due = Documents.join(first, second, others, others, new int[32]);
        lifted("a row of GROUND", Documents.repeated(8, row), due);
        lifted("a column of GROUND", turned(Documents.repeated(8, row)), turned(due));
    }

    // "All divisions here are rounded down (towards minus infinity)."
    private static void dividedByFourRoundsDown() {
        // d: -2, -2; s: 2 + (-2) / 4 = 1
        lifted("-2 / 4", fourTimes(2, 0, 2, 0), 1, 0, -2, -2, 0, 0, -2, -2, 0, 0, 0, 0, 0, 0, 0, 0);
        // d: -5, -5; s: 5 + (-8) / 4
        lifted("-8 / 4", fourTimes(5, 0, 5, 0), 3, 0, -5, -5, 0, 0, -5, -5, 0, 0, 0, 0, 0, 0, 0, 0);
        // d: -6, -6; s: 6 + (-10) / 4
        lifted("-10 / 4", fourTimes(6, 0, 6, 0), 3, 0, -6, -6, 0, 0, -6, -6, 0, 0, 0, 0, 0, 0, 0, 0);
    }

    // "All divisions here are rounded down": -1 / 2 is -1
    private static void dividedByTwoRoundsDown() {
        // the columns of d are -1, 0, 0, 0: d is 0 - (-1) / 2 = 1, s is -1 + 4 / 4 = 0
        lifted("-1 / 2", Documents.join(Documents.bytes(1, 0, 1, 0), new int[12]),
                1, 0, 0, 0, -1, 0, 0, 0, 0, 0, 1, 1, 0, 0, 0, 0);
    }

    // "the first m cells of each of the rows 0 .. m - 1 are lifted, then the first m cells of each of the columns"
    private static void rowsAreLiftedBeforeColumns() {
        int[] cells = {63, 0, 5, 1, 0, 40, 2, 0, 9, 0, 63, 0, 1, 33, 0, 62};
        int[][] rows = new int[4][4];
        int[][] columns = new int[4][4];
        for (int i = 0; i < 16; i++) {
            rows[i / 4][i % 4] = cells[i];
            columns[i % 4][i / 4] = cells[i];
        }
        int[] due = flat(Reference.coefficientsOf(rows));
        int[] other = turned(flat(Reference.coefficientsOf(columns)));
        CHECK.due("the order of rows and columns is seen", Arrays.equals(due, other), false);
        lifted("rows before columns", cells, due);
    }

    private static int[] flat(int[][] rows) {
        return Documents.join(rows);
    }

    // "This is UNDONE in the opposite order": also for coefficients that no cells have
    private static void undoneInTheOppositeOrder() {
        for (int run = 0; run < 60; run++) {
            Dice dice = new Dice(700 + run);
            int size = run % 2 == 0 ? 8 : 4;
            int[][] rows = new int[size][size];
            for (int i = 0; i < size * size; i++) {
                rows[i / size][i % size] = dice.between(-9, 9) * (run % 3 == 0 ? 1 : 5);
            }
            rows[0][0] = 32;
            LayeredPage page = read("undone " + run, 10, flat(rows));
            coefficients("undone " + run, page, flat(rows));
            cells("undone " + run, page, flat(Reference.cellsOf(rows)));
        }
    }

    // "x(2i) = s(i) - (d(i - 1) + d(i) + 2) / 4 for all i, and x(2i + 1) = d(i) + (x(2i) + x(2i + 2)) / 2"
    private static void undoneAtTheEndsOfARow() {
        // m = 2: d is 0, x is 20, 20. m = 4, of s 20, 20 and d 8, -12:
        // x(0) = 20 - 18 / 4, x(2) = 20 - (-2) / 4, x(1) = 8 + (16 + 21) / 2, x(3) = -12 + (21 + 21) / 2
        LayeredPage page = read("ends", 10, 20, 0, 8, -12, 0, 0, 8, -12, 0, 0, 0, 0, 0, 0, 0, 0);
        cells("ends of a row", page, fourTimes(16, 26, 21, 9));
        page = read("ends", 10, turned(20, 0, 8, -12, 0, 0, 8, -12, 0, 0, 0, 0, 0, 0, 0, 0));
        cells("ends of a column", page, turned(fourTimes(16, 26, 21, 9)));
    }

    // "A LAYER'S CODE with k SLICES, k from 0 to 10": none
    private static void noSlices() {
        LayeredPage page = new LayeredPage();
        page.paint(0, 0, 0x3F3F3F3F3F3F3F3FL);
        page.paint(1, 0, 0x3F3F3F3FL);
        page.encode(0);
        Documents.due(CHECK, "no slices", page, 80, 71, 2, 0, 0, 3, 0, 3, 0, 0, 0, 4, 0, 3, 0, 0, 0);
        page.decode();
        coefficients("no slices", page, new int[64]);
        cells("no slices", page, new int[16]);
        coefficients("no slices of a high code", loaded("no slices", 4, 0, 255, 255, 255, 255), new int[16]);
    }

    // "has the PLANES b = 9, 8, .. 10 - k": with ten of them down to the last bit
    private static void allSlices() {
        int[] odd = {1, -1, 2, -2, 3, -3, 511, -511, 512, -512, 513, -513, 1022, -1022, 1023, -1023};
        coefficients("all slices", read("all slices", 10, odd), odd);
        int[] fifteen = {0, 0, 0, 0, 0, 0, 0, 0, 0, 0, 0, 0, 0, 0, 0, 1};
        coefficients("a last 1", read("a last 1", 10, fifteen), fifteen);
        coefficients("a last 1 in nine slices", read("a last 1 in nine", 9, fifteen), new int[16]);
    }

    // "the absolute value of another has the bits that were read, and zeros for the planes that are not there"
    private static void slicesLeaveHighBits() {
        int[] whole = {1023, -1023, 683, -683, 512, -512, 511, -511, 341, -341, 8, -7, 1, -1, 0, 64};
        for (int slices = 0; slices <= 10; slices++) {
            int step = 1 << (10 - slices);
            int[] left = new int[16];
            for (int i = 0; i < 16; i++) {
                left[i] = whole[i] / step * step;
            }
            coefficients(slices + " slices", read(slices + " slices", slices, whole), left);
        }
    }

    // "a coefficient that has not begun in any of its planes is 0": written and read, with every number of slices
    private static void negativeLosesNoMoreThanPositive() {
        for (int slices = 0; slices <= 10; slices++) {
            LayeredPage page = new LayeredPage();
            for (int y = 0; y < 4; y++) {
                page.paint(1, y, 0x003F003FL);
            }
            page.encode(slices);
            page.decode();
            int step = 1 << (10 - slices);
            // 63, 0, 63, 0: both d are -63, both s 63 + (-124) / 4
            CHECK.due(slices + " slices of 32", page.coefficient(1, 0, 0), 32 / step * step);
            CHECK.due(slices + " slices of -63", page.coefficient(1, 3, 1), -(63 / step * step));
        }
    }

    // "(No coefficient of a layer reaches 1024.)": the highest that any code tells are 1023 and -1023
    private static void highestAndLowestCoefficients() {
        int[] lowest = new int[64];
        Arrays.fill(lowest, -1023);
        coefficients("the highest code", loaded("the highest code", 3, 10, Documents.repeated(60, 255)), lowest);
        int[] ends = new int[64];
        for (int i = 0; i < 64; i++) {
            ends[i] = (i % 8 + i / 8) % 2 == 0 ? 1023 : -1023;
        }
        LayeredPage page = read("the furthest apart", 10, ends);
        coefficients("the furthest apart", page, ends);
        int[][] rows = new int[8][8];
        for (int i = 0; i < 64; i++) {
            rows[i / 8][i % 8] = ends[i];
        }
        cells("the furthest apart", page, flat(Reference.cellsOf(rows)));
        coefficients("no code", loaded("no code", 3, 10), new int[64]);
    }

    /** Reads a plane of INK whose bits and contexts are told by hand: what was read is due. */
    private static void plane(String name, int[] due, int... contextsAndBits) {
        LayeredPage page = loaded(name, 4, 1, Reference.code(contextsAndBits));
        coefficients(name, page, due);
    }

    // "its two neighbours, the left one and the upper one, that are there": the last of a row above is none
    private static void leftNeighbourThatIsNotThere() {
        int[] due = {0, 0, 0, 512, 0, 0, 0, 512, 0, 0, 0, 512, 512, 0, 0, 0};
        plane("left of the first", due,
                0, 0, 0, 0, 0, 0, 0, 1, 3, 0,
                0, 0, 0, 0, 0, 0, 1, 1, 3, 0,
                0, 0, 0, 0, 0, 0, 1, 1, 3, 0,
                0, 1, 3, 0, 1, 0, 0, 0, 1, 0);
    }

    // "its two neighbours, the left one and the upper one, that are there": the first row has no upper ones
    private static void upperNeighbourThatIsNotThere() {
        int[] due = {512, 512, 0, 512, 0, 0, 0, 0, 0, 0, 0, 0, -512, 0, -512, -512};
        plane("above the first", due,
                0, 1, 3, 0, 1, 1, 3, 0, 1, 0, 0, 1, 3, 0,
                1, 0, 1, 0, 0, 0, 1, 0,
                0, 0, 0, 0, 0, 0, 0, 0,
                0, 1, 3, 1, 1, 0, 0, 1, 3, 1, 1, 1, 3, 1);
    }

    // "the context that is the number of those of its two neighbours .. that .. have begun at plane b"
    private static void bothNeighboursCount() {
        int[] due = {-512, -512, -512, -512, -512, -512, -512, -512, 0, 0, 0, 0, 0, 0, 0, 512};
        plane("two neighbours", due,
                0, 1, 3, 1, 1, 1, 3, 1, 1, 1, 3, 1, 1, 1, 3, 1,
                1, 1, 3, 1, 2, 1, 3, 1, 2, 1, 3, 1, 2, 1, 3, 1,
                1, 0, 1, 0, 1, 0, 1, 0,
                0, 0, 0, 0, 0, 0, 0, 1, 3, 0);
    }

    // "a second bit follows in context 3: 1 if the coefficient is negative", "there is the bit .. in context 4"
    private static void signsAndLaterBitsHaveTheirContexts() {
        int[] code = Reference.code(
                0, 1, 3, 1, 1, 0, 0, 0, 0, 0, 1, 0, 0, 0, 0, 0, 0, 0, 0, 0, 0, 0, 0, 0, 0, 0, 0, 0, 0, 0, 0, 0, 0, 0,
                4, 1, 1, 1, 3, 0, 1, 0, 0, 0, 1, 0, 1, 0, 0, 0, 0, 0, 0, 0, 0, 0, 0, 0, 0, 0, 0, 0, 0, 0, 0, 0, 0, 1,
                3, 1, 4, 0, 4, 1);
        LayeredPage page = loaded("contexts 3 and 4", 4, 3, code);
        coefficients("contexts 3 and 4", page, -768, 384, 0, 0, 0, 0, 0, 0, 0, 0, 0, 0, 0, 0, 0, -256);
    }

    // "Cells of a layer are the undone coefficients, but 0 for those below 0, and 63 for those above 63"
    private static void cellsBelowNoughtAndAboveSixtyThree() {
        int[] values = {-1023, -64, -1, 0, 1, 62, 63, 64, 65, 255, 256, 1023};
        for (int value : values) {
            int due = value < 0 ? 0 : value > 63 ? 63 : value;
            for (int size = 4; size <= 8; size += 4) {
                int[] coefficients = new int[size * size];
                int[] cells = new int[size * size];
                coefficients[0] = value;
                Arrays.fill(cells, due);
                LayeredPage page = read("cells of " + value, 10, coefficients);
                cells("cells of " + value, page, cells);
                coefficients("cells of " + value, page, coefficients);
                CHECK.due("pixel(0, 0) of " + value, page.pixel(0, 0), size == 8 ? due : 0);
            }
        }
    }
}
