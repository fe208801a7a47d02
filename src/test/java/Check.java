import java.util.Arrays;

/** Counts the answers that are not as due. */
final class Check {
    private int asked = 0;
    private int wrong = 0;

    void due(String call, long got, long want) {
        asked++;
        if (got != want) {
            wrong++;
            System.out.println(call + " answered " + got + ", due is " + want);
        }
    }

    void due(String call, boolean got, boolean want) {
        due(call, got ? 1 : 0, want ? 1 : 0);
    }

    /** The same row of numbers; tells the first place where it is not. */
    void due(String row, long[] got, long[] want) {
        int at = Arrays.mismatch(got, want);
        asked++;
        if (at >= 0) {
            wrong++;
            String is = at < got.length ? "is " + got[at] : "is not there";
            String should = at < want.length ? "due is " + want[at] : "due is nothing";
            System.out.println(row + ": number " + at + " " + is + ", " + should);
        }
    }

    boolean failed() {
        return wrong > 0;
    }

    void end() {
        System.out.println(asked + " answers, " + wrong + " not as due");
        if (wrong > 0 || asked == 0) {
            System.exit(1);
        }
    }
}
