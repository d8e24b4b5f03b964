import java.util.function.Function;

/**
 * The last paragraph of "Terms", for every call that may throw: it throws just what its comment
 * names, the one named first when several would do, and a call that throws changes nothing.
 */
public final class RefusedTest {
    private static final int LEAST = Integer.MIN_VALUE;
    private static final int MOST = Integer.MAX_VALUE;
    private static final String NO_INDEX = "throws.IndexOutOfBoundsException";
    private static final String NO_ARGUMENT = "throws.IllegalArgumentException";
    private static final String NO_MORE = "throws.UnsupportedOperationException";

    private static final int CHAINS = 2;
    private static final int CELLS = 3;
    private static final int DEGREE = 5;

    /** In the sample 2 is gone and 3 is not made yet. */
    private static final int[] NO_PATTERNS = {LEAST, -1, 2, 3, 23, 24, 25, 32, MOST};
    /** Pairs whose 8 * chain + cell is that of a cell which the sample has stand among these. */
    private static final int[][] NO_PLACES = {{LEAST, 0}, {-1, 0}, {-1, 8}, {2, 0}, {3, 0}, {4, 0}, {32, 0},
        {MOST, 0}, {0, LEAST}, {0, -1}, {1, -8}, {1, -1}, {0, 3}, {0, 7}, {0, 8}, {0, 9}, {0, 32}, {1, MOST},
        {-1, -1}, {2, 3}, {LEAST, MOST}, {1 << 29, 0}};
    private static final int[] NO_VALUES = {LEAST, -2, 2, 3, MOST};
    private static final int[] NO_STAGES = {LEAST, -1, DEGREE, DEGREE + 1, 16, 32, 32 + DEGREE - 1, MOST};
    private static final int[] NO_FAULTS = {LEAST, -1, 31, 32, 33, 63, 64, MOST};

    private static final Check check = new Check();

    public static void main(String[] args) {
        care();
        degree();
        machine();
        callsOfAPattern();
        callsOfAPlace();
        found();
        finders();
        signature();
        alias();
        fill();
        count();
        patternOf24();
        lastStageOfEachDegree();
        allOfAnEmptyObject();
        check.end();
    }

    /** 0 has a seed, 1 has none, 2 is gone; taps, masks, faults and the fill are not the first ones. */
    private static PackSeeds sample() {
        PackSeeds x = Check.with(CHAINS, CELLS, 3);
        x.fill(2);
        x.degree(DEGREE);
        x.machine(1, true);
        x.care(0, 0, 1, 1);
        x.care(1, 0, 1, 0);
        x.care(1, 1, 2, 1);
        x.care(2, 1, 0, 1);
        x.mask(0, 1, 1);
        x.mask(1, 0, 0);
        x.found(0, 0);
        x.found(1, 30);
        x.drop();
        x.seed(0);
        return x;
    }

    private static PackSeeds fullSample() {
        PackSeeds x = Check.with(CHAINS, CELLS, 24);
        x.care(23, 1, 2, 1);
        x.found(23, 4);
        x.seed(23);
        return x;
    }

    /** The twin, which was not called, tells what the object has to show still. */
    private static void refused(String call, String want, Function<PackSeeds, Object> made) {
        PackSeeds x = sample();
        check.due(call, want, () -> made.apply(x));
        String before = Look.at(sample(), CHAINS, CELLS, 4);
        check.due(call + " changes nothing", before, () -> Look.at(x, CHAINS, CELLS, 4));
    }

    private static void care() {
        for (int p : NO_PATTERNS) {
            refused("care(" + p + ", 0, 0, 1)", NO_INDEX, x -> x.care(p, 0, 0, 1));
            refused("care(" + p + ", 0, 0, 2)", NO_INDEX, x -> x.care(p, 0, 0, 2));
            refused("care(" + p + ", 2, 3, 2)", NO_INDEX, x -> x.care(p, 2, 3, 2));
        }
        for (int[] at : NO_PLACES) {
            String where = "care(1, " + at[0] + ", " + at[1] + ", ";
            refused(where + "1)", NO_INDEX, x -> x.care(1, at[0], at[1], 1));
            refused(where + "2)", NO_INDEX, x -> x.care(1, at[0], at[1], 2));
            refused(where + "-2)", NO_INDEX, x -> x.care(1, at[0], at[1], -2));
        }
        for (int v : NO_VALUES) {
            refused("care(0, 0, 0, " + v + ")", NO_ARGUMENT, x -> x.care(0, 0, 0, v));
            refused("care(0, 0, 1, " + v + ")", NO_ARGUMENT, x -> x.care(0, 0, 1, v));
            refused("care(1, 1, 2, " + v + ")", NO_ARGUMENT, x -> x.care(1, 1, 2, v));
        }
    }

    private static void degree() {
        int[] wrong = {LEAST, -1, 0, 17, 18, 32, 33, MOST};
        for (int d : wrong) {
            refused("degree(" + d + ")", NO_ARGUMENT, x -> Check.degree(x, d));
        }
    }

    private static void machine() {
        for (int k : NO_STAGES) {
            refused("machine(" + k + ", true)", NO_INDEX, x -> x.machine(k, true));
            refused("machine(" + k + ", false)", NO_INDEX, x -> x.machine(k, false));
        }
        refused("machine(last, false)", NO_ARGUMENT, x -> x.machine(DEGREE - 1, false));
    }

    private static void callsOfAPattern() {
        for (int p : NO_PATTERNS) {
            refused("seed(" + p + ")", NO_INDEX, x -> x.seed(p));
            refused("seedOf(" + p + ")", NO_INDEX, x -> x.seedOf(p));
            refused("shifts(" + p + ")", NO_INDEX, x -> x.shifts(p));
        }
    }

    private static void callsOfAPlace() {
        for (int p : NO_PATTERNS) {
            refused("bit(" + p + ", 0, 0)", NO_INDEX, x -> x.bit(p, 0, 0));
            refused("mask(" + p + ", 0, 0)", NO_INDEX, x -> x.mask(p, 0, 0));
        }
        for (int p = 0; p < 2; p++) {
            int q = p;
            for (int[] at : NO_PLACES) {
                String where = "(" + q + ", " + at[0] + ", " + at[1] + ")";
                refused("bit" + where, NO_INDEX, x -> x.bit(q, at[0], at[1]));
                refused("mask" + where, NO_INDEX, x -> x.mask(q, at[0], at[1]));
            }
        }
    }

    private static void found() {
        for (int p : NO_PATTERNS) {
            refused("found(" + p + ", 0)", NO_INDEX, x -> x.found(p, 0));
            refused("found(" + p + ", 31)", NO_INDEX, x -> x.found(p, 31));
        }
        for (int f : NO_FAULTS) {
            refused("found(0, " + f + ")", NO_INDEX, x -> x.found(0, f));
        }
    }

    private static void finders() {
        for (int f : NO_FAULTS) {
            refused("finders(" + f + ")", NO_INDEX, x -> x.finders(f));
        }
    }

    private static void signature() {
        int[][] wrong = {{-1, 0}, {-1, -1}, {-1, 23}, {-1, MOST}, {LEAST, 0}, {LEAST, LEAST}, {LEAST, MOST}, {1, 0},
            {23, 22}, {24, 23}, {0, -1}, {0, LEAST}, {MOST, 0}, {MOST, MOST - 1}, {MOST, LEAST}, {-1, -2}};
        for (int[] w : wrong) {
            refused("signature(" + w[0] + ", " + w[1] + ")", NO_ARGUMENT, x -> x.signature(w[0], w[1]));
        }
    }

    private static void alias() {
        int[] wrongLengths = {LEAST, -1, 0, 61, 62, 63, 64, 65, MOST};
        int[] wrongParts = {LEAST, -1, 2, MOST};
        for (int n : wrongLengths) {
            refused("alias(" + n + ", 0)", NO_ARGUMENT, x -> x.alias(n, 0));
            refused("alias(" + n + ", 1)", NO_ARGUMENT, x -> x.alias(n, 1));
            refused("alias(" + n + ", 2)", NO_ARGUMENT, x -> x.alias(n, 2));
        }
        for (int part : wrongParts) {
            refused("alias(1, " + part + ")", NO_ARGUMENT, x -> x.alias(1, part));
            refused("alias(60, " + part + ")", NO_ARGUMENT, x -> x.alias(60, part));
        }
    }

    private static void fill() {
        int[] wrong = {LEAST, -1, 3, 4, MOST};
        for (int kind : wrong) {
            refused("fill(" + kind + ")", NO_ARGUMENT, x -> x.fill(kind));
        }
    }

    private static void count() {
        int[] wrong = {LEAST, -1, 5, 6, MOST};
        for (int what : wrong) {
            refused("count(" + what + ")", NO_INDEX, x -> x.count(what));
        }
    }

    /** Of 24 patterns, the last ones are looked at: one more must not have taken a number. */
    private static void patternOf24() {
        PackSeeds x = fullSample();
        check.due("pattern() of 24", NO_MORE, x::pattern);
        check.due("pattern() of 24 again", NO_MORE, x::pattern);
        PackSeeds y = fullSample();
        for (int what = 0; what < 5; what++) {
            int w = what;
            check.due("count(" + w + ") after a refused pattern()", y.count(w), () -> x.count(w));
        }
        for (int p = 0; p < 25; p++) {
            int q = p;
            check.due("seedOf(" + q + ") after it", Check.told(() -> y.seedOf(q)), () -> x.seedOf(q));
        }
        check.due("bits after it", Check.bits(y, 23, CHAINS, CELLS), () -> Check.bits(x, 23, CHAINS, CELLS));
        check.due("finders(4) after it", 1, () -> x.finders(4));
    }

    /** "the last one always" is tapped, and there is none behind it. */
    private static void lastStageOfEachDegree() {
        for (int d = 1; d <= 16; d++) {
            int last = d - 1;
            PackSeeds x = Check.with(1, 1, 1);
            x.degree(d);
            x.seed(0);
            check.noArgument("degree " + d + ", last untapped", () -> x.machine(last, false));
            check.due("degree " + d + ", it is tapped still", false, () -> x.machine(last, true));
            check.noIndex("degree " + d + ", one behind tapped", () -> x.machine(last + 1, true));
            check.noIndex("degree " + d + ", one behind untapped", () -> x.machine(last + 1, false));
            check.due("degree " + d + ", seeds stay", 0, () -> x.seedOf(0));
        }
    }

    private static void allOfAnEmptyObject() {
        PackSeeds x = new PackSeeds(CHAINS, CELLS);
        check.noIndex("empty: care(0, 0, 0, 1)", () -> x.care(0, 0, 0, 1));
        check.noIndex("empty: care(0, 0, 0, 2)", () -> x.care(0, 0, 0, 2));
        check.noIndex("empty: seed(0)", () -> x.seed(0));
        check.noIndex("empty: seedOf(0)", () -> x.seedOf(0));
        check.noIndex("empty: bit(0, 0, 0)", () -> x.bit(0, 0, 0));
        check.noIndex("empty: found(0, 0)", () -> x.found(0, 0));
        check.noIndex("empty: mask(0, 0, 0)", () -> x.mask(0, 0, 0));
        check.noIndex("empty: shifts(0)", () -> x.shifts(0));
        String fresh = Look.at(new PackSeeds(CHAINS, CELLS), CHAINS, CELLS, 2);
        check.due("empty: nothing has changed", fresh, () -> Look.at(x, CHAINS, CELLS, 2));
    }
}
