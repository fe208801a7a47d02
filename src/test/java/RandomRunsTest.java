/** Long runs of thrown calls, ordinary and wrong ones, on the program and on the reference side by side. */
final class RandomRunsTest {
    private static final int RUNS = 1500;
    /** An object is good for so many calls. */
    private static final int CALLS = 512;

    private final Check check;
    private final Dice dice;
    private final LayeredPage page = new LayeredPage();
    private final Reference reference = new Reference();
    private final String run;
    private int calls = 0;
    private int drafted = 0;
    /** How the run's cells, shapes and bytes are thrown. */
    private final int style;

    private RandomRunsTest(Check check, int run) {
        this.check = check;
        this.run = "run " + run + ": ";
        dice = new Dice(run);
        style = dice.below(4);
    }

    public static void main(String[] args) {
        Check check = new Check();
        for (int run = 0; run < RUNS && !check.failed(); run++) {
            new RandomRunsTest(check, run).play();
        }
        check.end();
    }

    private void play() {
        while (calls < CALLS - 120) {
            int part = dice.below(10);
            if (part < 4) {
                draft();
            } else if (part < 6) {
                write();
            } else if (part < 8) {
                change();
            } else {
                read();
            }
        }
        encode(10);
        compareDocument();
        decode();
        while (calls < CALLS) {
            look();
        }
    }

    private void due(String call, long got, long want) {
        calls++;
        check.due(run + call, got, want);
    }

    private void due(String call, boolean got, boolean want) {
        due(call, got ? 1 : 0, want ? 1 : 0);
    }

    private int side() {
        return dice.once(12) ? dice.between(-1, 10) : dice.between(1, 8);
    }

    private int spot() {
        return dice.once(12) ? dice.between(-2, 17) : dice.below(16);
    }

    private void draft() {
        if (dice.once(60)) {
            calls++;
            page.clear();
            reference.clear();
            drafted = 0;
        }
        for (int i = dice.below(4); i > 0; i--) {
            shape();
        }
        for (int i = dice.below(4); i > 0; i--) {
            int shape = dice.between(dice.once(8) ? -1 : 0, dice.once(8) ? drafted : Math.max(0, drafted - 1));
            int x = spot();
            int y = spot();
            due("place(" + shape + ", " + x + ", " + y + ")", page.place(shape, x, y), reference.place(shape, x, y));
        }
        for (int i = dice.below(8); i > 0; i--) {
            paint();
        }
    }

    private void shape() {
        int w = side();
        int h = side();
        int base = dice.once(3) ? LayeredPage.NONE
                : dice.between(dice.once(8) ? -2 : -1, drafted - (dice.once(8) ? 0 : 1));
        long bits = style == 0 ? dice.bits() : style == 1 ? dice.bits() & dice.bits()
                : style == 2 ? -1L : 0x55AA55AA55AA55AAL;
        if (w >= 1 && w <= 8 && h >= 1 && h <= 8 && !dice.once(12)) {
            bits &= mask(w, h);
        }
        int number = reference.shape(bits, w, h, base);
        due("shape(" + bits + ", " + w + ", " + h + ", " + base + ")", page.shape(bits, w, h, base), number);
        drafted += number == LayeredPage.NONE ? 0 : 1;
    }

    private static long mask(int w, int h) {
        long mask = 0;
        for (int i = 0; i < 64; i++) {
            mask |= i % 8 < w && i / 8 < h ? 1L << i : 0;
        }
        return mask;
    }

    private void paint() {
        int layer = dice.once(20) ? dice.between(-1, 2) : dice.below(2);
        int row = dice.once(20) ? dice.between(-1, 8) : dice.below(layer == 1 ? 4 : 8);
        long cells = style == 0 ? dice.bits() : style == 1 ? dice.bits() & 0x0303030303030303L
                : style == 2 ? (dice.once(2) ? 0x3F003F003F003F00L : 0x003F003F003F003FL)
                : 0x0807060504030201L * dice.below(8);
        if (!dice.once(20)) {
            cells &= layer == 1 ? 0x3F3F3F3FL : 0x3F3F3F3F3F3F3F3FL;
        }
        due("paint(" + layer + ", " + row + ", " + cells + ")",
                page.paint(layer, row, cells), reference.paint(layer, row, cells));
    }

    private void encode(int slices) {
        due("encode(" + slices + ")", page.encode(slices), reference.encode(slices));
    }

    private void write() {
        encode(dice.once(3) ? 10 : dice.between(-1, 11));
        due("length()", page.length(), reference.length());
        for (int i = 0; i < 4; i++) {
            octet(dice.between(-1, reference.length()));
        }
    }

    private void octet(int k) {
        due("octet(" + k + ")", page.octet(k), reference.octet(k));
    }

    private void compareDocument() {
        int room = CALLS - calls - 20;
        int first = Math.max(0, reference.length() - room);
        for (int k = first; k < reference.length(); k++) {
            octet(k);
        }
    }

    private void change() {
        if (dice.once(3)) {
            int n = dice.once(10) ? dice.between(-1, reference.length() + 1) : reference.length() - dice.below(4);
            due("cut(" + n + ")", page.cut(n), reference.cut(n));
        }
        if (dice.once(10)) {
            rebuild();
        }
        for (int i = dice.below(5); i > 0; i--) {
            int k = dice.once(3) ? dice.between(-1, reference.length() + 1)
                    : Math.max(0, reference.length() - dice.below(20));
            int v = dice.once(12) ? dice.between(-1, 256) : dice.once(2) ? dice.below(12) : dice.below(256);
            due("alter(" + k + ", " + v + ")", page.alter(k, v), reference.alter(k, v));
        }
    }

    /** A document of chunks that are right more often than not. */
    private void rebuild() {
        due("cut(0)", page.cut(0), reference.cut(0));
        append(80);
        append(71);
        for (int i = dice.below(8); i > 0; i--) {
            int kind = dice.once(10) ? dice.below(6) : dice.between(1, 4);
            int size = kind == 2 ? 2 * dice.below(4) : dice.between(2, 8);
            append(kind);
            append(0);
            append(size);
            for (int k = 0; k < size; k++) {
                append(k == 0 || kind == 2 && k % 2 == 0 ? dice.below(kind >= 3 ? 11 : 2)
                        : kind == 1 && k == 1 ? dice.below(8) * 16 + dice.below(8) : dice.below(256));
            }
        }
    }

    private void append(int v) {
        int k = reference.length();
        due("alter(" + k + ", " + v + ")", page.alter(k, v), reference.alter(k, v));
    }

    private void decode() {
        due("decode()", page.decode(), reference.decode());
    }

    private void read() {
        decode();
        for (int i = 0; i < 8; i++) {
            look();
        }
    }

    private void look() {
        int x = spot();
        int y = spot();
        int layer = dice.once(12) ? dice.between(-1, 2) : dice.below(2);
        int u = dice.below(layer == 1 ? 5 : 9) - (dice.once(9) ? 1 : 0);
        int v = dice.below(layer == 1 ? 5 : 9) - (dice.once(9) ? 1 : 0);
        switch (dice.below(7)) {
            case 0 -> due("pixel(" + x + ", " + y + ")", page.pixel(x, y), reference.pixel(x, y));
            case 1 -> due("inked(" + x + ", " + y + ")", page.inked(x, y), reference.inked(x, y));
            case 2 -> due("cell(" + layer + ", " + u + ", " + v + ")",
                    page.cell(layer, u, v), reference.cell(layer, u, v));
            case 3 -> due("coefficient(" + layer + ", " + u + ", " + v + ")",
                    page.coefficient(layer, u, v), reference.coefficient(layer, u, v));
            case 4 -> due("shapes()", page.shapes(), reference.shapes());
            case 5 -> due("glyph(" + u + ")", page.glyph(u), reference.glyph(u));
            default -> due("placings()", page.placings(), reference.placings());
        }
    }
}
