import java.util.Arrays;
import java.util.List;
import java.util.function.IntSupplier;

/** Counts answers that are not as due, and tells the line of the test that asked. */
final class Check {
    private static final int REFUSALS = 5;
    private static final List<String> HELPERS = List.of("Check", "Scenes");
    private int asked = 0;
    private int wrong = 0;

    void due(long got, long want) {
        asked++;
        if (got != want) {
            wrong++;
            System.out.println(line() + ": answered " + got + ", due is " + want);
        }
    }

    /** Holds; what tells what it means if it does not. */
    void holds(boolean held, String what) {
        asked++;
        if (!held) {
            wrong++;
            System.out.println(line() + ": " + what);
        }
    }

    /** The call answers a refusal, and that refusal alone is counted, once. */
    void refused(WhiteElephants x, int want, IntSupplier call) {
        int[] before = refusals(x);
        int got = call.getAsInt();
        int[] after = refusals(x);
        asked++;
        boolean counted = true;
        for (int i = 0; i < REFUSALS; i++) {
            counted &= after[i] - before[i] == (i == -2 - want ? 1 : 0);
        }
        if (got != want || !counted) {
            wrong++;
            System.out.println(line() + ": answered " + got + ", due is the refusal " + want
                    + (counted ? "" : ", which is not counted as is due"));
        }
    }

    /** Two rows of answers are the same; what tells what it means if they are not. */
    void same(long[] got, long[] want, String what) {
        asked++;
        int place = Arrays.mismatch(got, want);
        if (place >= 0) {
            wrong++;
            System.out.println(line() + ": " + what + ": answer " + place + " of " + got.length + " is "
                    + (place < got.length ? got[place] : "missing") + ", due is "
                    + (place < want.length ? want[place] : "none"));
        }
    }

    void bad(WhiteElephants x, IntSupplier call) {
        refused(x, -2, call);
    }

    void end() {
        System.out.println(asked + " answers, " + wrong + " not as due");
        if (wrong != 0 || asked == 0) {
            System.exit(1);
        }
    }

    static int[] refusals(WhiteElephants x) {
        int[] counts = new int[REFUSALS];
        for (int i = 0; i < REFUSALS; i++) {
            counts[i] = x.status(12 + i);
        }
        return counts;
    }

    /** Feeds a text to THE TAPE. */
    static void feed(WhiteElephants x, String text) {
        for (int i = 0; i < text.length(); i++) {
            x.feed(text.charAt(i), 1);
        }
    }

    /** What law() answers to a text on an empty TAPE. */
    static int law(WhiteElephants x, String text) {
        feed(x, text);
        return x.law();
    }

    private static String line() {
        for (StackTraceElement e : new Throwable().getStackTrace()) {
            if (!HELPERS.contains(e.getClassName())) {
                return e.getFileName() + ":" + e.getLineNumber();
            }
        }
        return "?";
    }
}
