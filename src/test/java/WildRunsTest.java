/**
 * Rule 7 of LANGUAGE.md, "No call may ever throw or fail to end, for any arguments in any state": calls with numbers
 * from anywhere and long documents of any bytes, on the program and on the reference side by side. The runs go far
 * beyond the 512 calls after which answers are free, as only so a document comes to its 1200 bytes.
 */
final class WildRunsTest {
    private static final int RUNS = 60;
    private static final int STEPS = 2000;
    private static final int[] NUMBERS = {
        Integer.MIN_VALUE, Integer.MIN_VALUE + 1, -65536, -256, -17, -16, -9, -8, -2, -1, 0, 1, 2, 3, 4, 5, 7, 8, 9, 10,
        11, 15, 16, 17, 19, 20, 21, 31, 32, 63, 64, 65, 71, 80, 127, 128, 255, 256, 257, 1199, 1200, 1201, 32768, 65536,
        1 << 28, 1 << 29, 1 << 30, Integer.MAX_VALUE - 1, Integer.MAX_VALUE
    };

    private final Check check;
    private final Dice dice;
    private final LayeredPage page = new LayeredPage();
    private final Reference reference = new Reference();
    private final String run;

    private WildRunsTest(Check check, int run) {
        this.check = check;
        this.run = "run " + run + ": ";
        dice = new Dice(7000 + run);
    }

    public static void main(String[] args) {
        Check check = new Check();
        for (int run = 0; run < RUNS && !check.failed(); run++) {
            new WildRunsTest(check, run).play();
        }
        check.end();
    }

    private void play() {
        for (int step = 0; step < STEPS; step++) {
            int part = dice.below(400);
            if (part == 0) {
                page.clear();
                reference.clear();
            } else if (part < 4) {
                int slices = number();
                due("encode(" + slices + ")", page.encode(slices), reference.encode(slices));
            } else if (part < 6) {
                int n = number();
                due("cut(" + n + ")", page.cut(n), reference.cut(n));
            } else if (part < 15) {
                chunk();
            } else if (part < 40) {
                due("decode()", page.decode(), reference.decode());
            } else if (part < 200) {
                change();
            } else {
                look();
            }
        }
    }

    private void due(String call, long got, long want) {
        check.due(run + call, got, want);
    }

    private void due(String call, boolean got, boolean want) {
        check.due(run + call, got, want);
    }

    /** From anywhere, or small enough to be the number of something that is there. */
    private int number() {
        return dice.once(4) ? NUMBERS[dice.below(NUMBERS.length)] : dice.once(40) ? (int) dice.bits() : dice.below(9);
    }

    private long bits() {
        return dice.once(2) ? dice.bits() & 0x0707070707070707L : dice.once(2) ? dice.bits() : number();
    }

    private void change() {
        int a = number();
        int b = number();
        int c = number();
        long bits = bits();
        switch (dice.below(4)) {
            case 0 -> due("shape(" + bits + ", " + a + ", " + b + ", " + c + ")",
                    page.shape(bits, a, b, c), reference.shape(bits, a, b, c));
            case 1 -> due("place(" + a + ", " + b + ", " + c + ")", page.place(a, b, c), reference.place(a, b, c));
            case 2 -> due("paint(" + a + ", " + b + ", " + bits + ")",
                    page.paint(a, b, bits), reference.paint(a, b, bits));
            default -> alter(dice.once(2) ? a : dice.below(reference.length() + 1), b);
        }
    }

    private void look() {
        int a = number();
        int b = number();
        int c = number();
        switch (dice.below(9)) {
            case 0 -> due("pixel(" + a + ", " + b + ")", page.pixel(a, b), reference.pixel(a, b));
            case 1 -> due("inked(" + a + ", " + b + ")", page.inked(a, b), reference.inked(a, b));
            case 2 -> due("cell(" + a + ", " + b + ", " + c + ")", page.cell(a, b, c), reference.cell(a, b, c));
            case 3 -> due("coefficient(" + a + ", " + b + ", " + c + ")",
                    page.coefficient(a, b, c), reference.coefficient(a, b, c));
            case 4 -> due("glyph(" + a + ")", page.glyph(a), reference.glyph(a));
            case 5 -> due("shapes()", page.shapes(), reference.shapes());
            case 6 -> due("placings()", page.placings(), reference.placings());
            case 7 -> due("octet(" + a + ")", page.octet(a), reference.octet(a));
            default -> due("length()", page.length(), reference.length());
        }
    }

    private void alter(int k, int v) {
        due("alter(" + k + ", " + v + ")", page.alter(k, v), reference.alter(k, v));
    }

    /** A chunk more, now and then of a new document; when the document is full, so much of it as it takes. */
    private void chunk() {
        if (reference.length() < 2 || dice.once(8)) {
            due("cut(0)", page.cut(0), reference.cut(0));
            append(80);
            append(71);
        }
        int kind = dice.once(20) ? dice.below(256) : dice.between(1, 4);
        int size = dice.once(4) ? dice.below(700) : dice.below(12);
        append(kind);
        append(size / 256);
        append(size % 256);
        for (int k = 0; k < size; k++) {
            boolean small = k == 0 || kind == 2 && k % 2 == 0;
            append(small ? dice.below(kind >= 3 ? 12 : 3) : kind == 1 && k == 1 ? 17 * dice.below(8) : dice.below(256));
        }
        if (dice.once(2)) {
            due("decode()", page.decode(), reference.decode());
        }
    }

    private void append(int v) {
        alter(reference.length(), v);
    }
}
