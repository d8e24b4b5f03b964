/** Promises 5 to 9 and 14 to 18: the machine, seeds, bits, the fill, signatures, the polynomial. */
public final class MachineTest {
    private static final int NONE = PackSeeds.NONE;
    private static final Check check = new Check();

    public static void main(String[] args) {
        degree();
        machine();
        machineTakesSeeds();
        leastSeed();
        seedOfNothing();
        noSeed();
        bitsOfASeed();
        chainsSharingStages();
        lastCellOfAll();
        fills();
        fillFromTheFirstCell();
        fillLeavesSeeds();
        signatureByHand();
        signatureOverPatterns();
        signatureOfTheLast();
        signatureRefuses();
        primitive();
        aliases();
        shifts();
        check.end();
    }

    private static void degree() {
        PackSeeds x = Check.with(1, 2, 1);
        x.machine(3, true);
        x.seed(0);
        int[] wrong = {0, 17, -1, Integer.MIN_VALUE, Integer.MAX_VALUE};
        for (int d : wrong) {
            check.noArgument("degree(" + d + ")", () -> Check.degree(x, d));
        }
        check.due("a throw changes nothing", "8 0 false",
            () -> x.count(3) + " " + x.seedOf(0) + " " + x.machine(3, true));
        check.due("degree(16)", "done", () -> Check.degree(x, 16));
        check.due("the degree", 16, () -> x.count(3));
        check.due("seed is lost", NONE, () -> x.seedOf(0));
        check.due("the last stage is tapped", false, () -> x.machine(15, true));
        check.due("stage 3 is not tapped any more", false, () -> x.machine(3, false));
        check.due("stage 7 is not tapped any more", false, () -> x.machine(7, false));
        x.machine(2, true);
        x.seed(0);
        check.due("degree(16) again", "done", () -> Check.degree(x, 16));
        check.due("seed is lost again", NONE, () -> x.seedOf(0));
        check.due("the last stage alone is tapped again", false, () -> x.machine(2, false));
        check.due("degree(1)", "done", () -> Check.degree(x, 1));
        check.due("the degree 1", 1, () -> x.count(3));
    }

    private static void machine() {
        PackSeeds x = new PackSeeds(1, 1);
        check.due("last tapped at first", false, () -> x.machine(7, true));
        check.due("first not tapped at first", false, () -> x.machine(0, false));
        check.due("tap 0", true, () -> x.machine(0, true));
        check.due("tap 0 again", false, () -> x.machine(0, true));
        check.due("untap 0", true, () -> x.machine(0, false));
        check.due("untap 0 again", false, () -> x.machine(0, false));
        check.noArgument("untap the last", () -> x.machine(7, false));
        check.due("it is tapped still", false, () -> x.machine(7, true));
        int[] wrong = {-1, 8, 16, 32, 39, Integer.MIN_VALUE, Integer.MAX_VALUE};
        for (int k : wrong) {
            check.noIndex("machine(" + k + ", true)", () -> x.machine(k, true));
            check.noIndex("machine(" + k + ", false)", () -> x.machine(k, false));
        }
        x.degree(1);
        check.noArgument("untap the only stage", () -> x.machine(0, false));
        check.noIndex("stage 1 of degree 1", () -> x.machine(1, false));
    }

    private static void machineTakesSeeds() {
        PackSeeds x = Check.with(1, 2, 2);
        x.seed(0);
        x.seed(1);
        x.machine(7, true);
        x.machine(0, false);
        check.noArgument("untap the last", () -> x.machine(7, false));
        check.due("the same as before leaves seeds", 2, () -> x.count(1));
        x.machine(0, true);
        check.due("another machine takes all seeds", 0, () -> x.count(1));
    }

    /** Degree 8: chain 0 gets stage 1 first, then stage 0, then what came in. */
    private static void leastSeed() {
        PackSeeds x = Check.with(1, 4, 1);
        x.care(0, 0, 3, 1);
        check.due("seed(0)", 0, () -> x.seed(0));
        check.due("at clock 0 stage 1 is heard", 2, () -> x.seedOf(0));
        x.care(0, 0, 3, NONE);
        x.care(0, 0, 2, 1);
        x.seed(0);
        check.due("at clock 1 stage 0 is heard", 1, () -> x.seedOf(0));
        x.care(0, 0, 2, NONE);
        x.care(0, 0, 1, 1);
        x.seed(0);
        check.due("at clock 2 the tapped stage 7", 128, () -> x.seedOf(0));
        x.machine(0, true);
        x.seed(0);
        check.due("a lesser seed by stage 0", 1, () -> x.seedOf(0));
        x.degree(16);
        x.seed(0);
        check.due("the greatest stage", 1 << 15, () -> x.seedOf(0));
    }

    private static void seedOfNothing() {
        PackSeeds x = Check.with(4, 8, 1);
        check.due("seedOf at first", NONE, () -> x.seedOf(0));
        check.due("seed(0)", 0, () -> x.seed(0));
        check.due("seedOf(0)", 0, () -> x.seedOf(0));
        check.noIndex("seed(1)", () -> x.seed(1));
        check.noIndex("seed(-1)", () -> x.seed(-1));
        check.noIndex("seedOf(1)", () -> x.seedOf(1));
        check.noIndex("seedOf(24)", () -> x.seedOf(24));
    }

    /** Degree 1 gives all cells the same. */
    private static void noSeed() {
        PackSeeds x = Check.with(2, 2, 1);
        x.degree(1);
        x.care(0, 0, 0, 1);
        check.due("seed of degree 1", 0, () -> x.seed(0));
        check.due("it is 1", 1, () -> x.seedOf(0));
        check.due("all have 1", "11 11", () -> Check.bits(x, 0, 2, 2));
        x.care(0, 1, 1, 0);
        check.due("there is none", 1, () -> x.seed(0));
        check.due("it has none", NONE, () -> x.seedOf(0));
        check.due("again there is none", 1, () -> x.seed(0));
        check.due("bits by the fill", "10 00", () -> Check.bits(x, 0, 2, 2));
    }

    /**
     * Degree 3, taps 1 and 2, seed 1 (stages 1 0 0): then 0 1 0, 1 0 1, 1 1 0, ..
     * Chain 0 hears stage 1, chain 1 stage 0, chain 2 stage 2, chain 3 stage 1.
     */
    private static void bitsOfASeed() {
        PackSeeds x = Check.with(4, 4, 1);
        x.degree(3);
        x.machine(1, true);
        x.care(0, 1, 3, 1);
        x.care(0, 1, 2, 0);
        x.care(0, 2, 3, 0);
        check.due("seed(0)", 0, () -> x.seed(0));
        check.due("seedOf(0)", 1, () -> x.seedOf(0));
        check.due("bits", "1010 1101 0100 1010", () -> Check.bits(x, 0, 4, 4));
        x.fill(1);
        check.due("bits, whatever the fill", "1010 1101 0100 1010", () -> Check.bits(x, 0, 4, 4));
        check.due("shifts of what the seed makes", 6 + 5 + 3 + 6, () -> x.shifts(0));
    }

    /** Degree 5: (5 c + 1) modulo 5 is stage 1 for each chain. */
    private static void chainsSharingStages() {
        PackSeeds x = Check.with(4, 3, 1);
        x.degree(5);
        x.care(0, 0, 1, 1);
        x.seed(0);
        check.due("chains alike", "010 010 010 010", () -> Check.bits(x, 0, 4, 3));
        x.care(0, 3, 1, 0);
        check.due("they cannot differ", 1, () -> x.seed(0));
    }

    /** Degree 16: chain 3 hears stage 0 first; chain 0 alone hears stage 1 then. */
    private static void lastCellOfAll() {
        PackSeeds x = Check.with(4, 8, 1);
        x.degree(16);
        x.care(0, 3, 7, 1);
        check.due("seed(0)", 0, () -> x.seed(0));
        check.due("seedOf(0)", 1, () -> x.seedOf(0));
        check.due("what it makes", "00000010 01000000 00000000 00000001", () -> Check.bits(x, 0, 4, 8));
        x.care(0, 0, 6, 0);
        check.due("stage 0 cannot be both", 1, () -> x.seed(0));
        x.care(0, 0, 6, NONE);
        x.care(0, 0, 7, 1);
        x.seed(0);
        check.due("stages 0 and 1", 3, () -> x.seedOf(0));
    }

    private static void fillFromTheFirstCell() {
        PackSeeds x = Check.with(2, 5, 1);
        x.fill(2);
        x.care(0, 0, 1, 0);
        x.care(0, 0, 3, 1);
        x.care(0, 1, 0, 1);
        x.care(0, 1, 3, 0);
        check.due("a lesser number goes before a nearer one", "00011 11100", () -> Check.bits(x, 0, 2, 5));
    }

    private static void fills() {
        PackSeeds x = Check.with(3, 6, 1);
        x.care(0, 0, 2, 1);
        x.care(0, 0, 4, 0);
        x.care(0, 1, 1, 0);
        x.care(0, 1, 5, 1);
        check.due("fill 0", "001000 000001 000000", () -> Check.bits(x, 0, 3, 6));
        check.due("fill(1)", true, () -> x.fill(1));
        check.due("fill(1) again", false, () -> x.fill(1));
        check.due("fill 1", "111101 101111 111111", () -> Check.bits(x, 0, 3, 6));
        check.due("fill(2)", true, () -> x.fill(2));
        check.due("fill 2", "111100 000001 000000", () -> Check.bits(x, 0, 3, 6));
        int[] wrong = {-1, 3, Integer.MIN_VALUE, Integer.MAX_VALUE};
        for (int kind : wrong) {
            check.noArgument("fill(" + kind + ")", () -> x.fill(kind));
        }
        check.due("a throw leaves the fill", false, () -> x.fill(2));
        check.due("fill(0)", true, () -> x.fill(0));
        check.due("fill 0 again", "001000 000001 000000", () -> Check.bits(x, 0, 3, 6));
    }

    private static void fillLeavesSeeds() {
        PackSeeds x = Check.with(1, 2, 1);
        x.seed(0);
        x.fill(1);
        check.due("seed stays", 0, () -> x.seedOf(0));
        check.due("bits by the seed", "00", () -> Check.bits(x, 0, 1, 2));
        x.degree(8);
        check.due("bits by the fill", "11", () -> Check.bits(x, 0, 1, 2));
    }

    /** Degree 3, the last alone tapped: a step turns the stages round. */
    private static void signatureByHand() {
        PackSeeds x = Check.with(4, 2, 1);
        x.degree(3);
        x.care(0, 0, 1, 1);
        check.due("chain 0, clock 0", 2, () -> x.signature(0, 0));
        x.care(0, 1, 0, 1);
        check.due("and chain 1, clock 1, cancel", 0, () -> x.signature(0, 0));
        x.care(0, 3, 0, 1);
        check.due("and chain 3 goes to stage 0", 1, () -> x.signature(0, 0));
        check.due("mask", true, () -> x.mask(0, 1, 0));
        check.due("without the masked cell", 3, () -> x.signature(0, 0));
        x.degree(1);
        check.due("all go to the only stage", 0, () -> x.signature(0, 0));
        x.mask(0, 3, 0);
        check.due("one is left in it", 1, () -> x.signature(0, 0));
    }

    /** One cell: pattern by pattern a step, then the bit; degree 8 keeps them in order. */
    private static void signatureOverPatterns() {
        PackSeeds x = Check.with(1, 1, 4);
        x.care(0, 0, 0, 1);
        x.care(2, 0, 0, 1);
        x.care(3, 0, 0, 1);
        x.care(1, 0, 0, 0);
        x.found(0, 0);
        x.found(1, 1);
        x.found(2, 0);
        x.found(3, 3);
        check.due("all", 11, () -> x.signature(0, 3));
        check.due("to far", 11, () -> x.signature(0, Integer.MAX_VALUE));
        check.due("0 and 1", 2, () -> x.signature(0, 1));
        check.due("1 and 2", 1, () -> x.signature(1, 2));
        check.due("none", 0, () -> x.signature(4, 4));
        check.due("none, far", 0, () -> x.signature(Integer.MAX_VALUE, Integer.MAX_VALUE));
        x.drop();
        check.due("without the gone one, no step for it", 5, () -> x.signature(0, 3));
        x.fill(1);
        x.care(1, 0, 0, NONE);
        check.due("with the fill", 7, () -> x.signature(0, 3));
        x.seed(1);
        check.due("with the seed", 5, () -> x.signature(0, 3));
    }

    private static void signatureOfTheLast() {
        PackSeeds x = Check.with(1, 1, 24);
        x.care(23, 0, 0, 1);
        check.due("pattern 23", 1, () -> x.signature(0, 23));
        check.due("pattern 23, asked for more", 1, () -> x.signature(23, 24));
        check.due("without it", 0, () -> x.signature(0, 22));
    }

    private static void signatureRefuses() {
        PackSeeds x = Check.with(1, 1, 2);
        check.noArgument("signature(-1, 0)", () -> x.signature(-1, 0));
        check.noArgument("signature(-2, -1)", () -> x.signature(-2, -1));
        check.noArgument("signature(1, 0)", () -> x.signature(1, 0));
        check.noArgument("signature(0, -1)", () -> x.signature(0, -1));
        check.noArgument("signature(MAX, MIN)", () -> x.signature(Integer.MAX_VALUE, Integer.MIN_VALUE));
        check.due("signature(0, 0)", 0, () -> x.signature(0, 0));
    }

    private static void primitive() {
        // Taps (stages from 0) of polynomials that are known to be primitive, by degree.
        int[][] taps = {{}, {0}, {1}, {2}, {2}, {4}, {5}, {3, 4, 5}, {4}, {6}, {8}, {5, 7, 10},
            {0, 2, 3}, {0, 2, 4}, {13}, {10, 12, 13}};
        for (int d = 1; d <= 16; d++) {
            PackSeeds x = new PackSeeds(1, 1);
            x.degree(d);
            check.due("degree " + d + ", the last alone tapped", d == 1, x::primitive);
            for (int tap : taps[d - 1]) {
                x.machine(tap, true);
            }
            check.due("degree " + d + ", tapped", true, x::primitive);
        }
        PackSeeds y = new PackSeeds(1, 1);
        y.degree(4);
        y.machine(0, true);
        y.machine(1, true);
        y.machine(2, true);
        check.due("1 + x + .. + x^4 comes back after 5", false, y::primitive);
        y.machine(0, false);
        y.machine(2, false);
        check.due("1 + x^2 + x^4 comes back after 6", false, y::primitive);
    }

    private static void aliases() {
        PackSeeds x = new PackSeeds(1, 1);
        check.due("alias(8, 0)", 0, () -> x.alias(8, 0));
        check.due("alias(8, 1)", 1, () -> x.alias(8, 1));
        check.due("alias(1, 0)", 0, () -> x.alias(1, 0));
        check.due("alias(1, 1)", 1, () -> x.alias(1, 1));
        check.due("alias(9, 0)", 1, () -> x.alias(9, 0));
        check.due("alias(9, 1)", 511, () -> x.alias(9, 1));
        check.due("alias(16, 0), 255 of 65535", 1, () -> x.alias(16, 0));
        check.due("alias(16, 1)", 257, () -> x.alias(16, 1));
        check.due("alias(60, 0)", ((1L << 52) - 1) / 15, () -> x.alias(60, 0));
        check.due("alias(60, 1)", ((1L << 60) - 1) / 15, () -> x.alias(60, 1));
        x.degree(1);
        check.due("degree 1, alias(60, 0)", (1L << 59) - 1, () -> x.alias(60, 0));
        check.due("degree 1, alias(60, 1)", (1L << 60) - 1, () -> x.alias(60, 1));
        int[][] wrong = {{0, 0}, {61, 0}, {-1, 1}, {5, 2}, {5, -1}, {0, 2}, {Integer.MIN_VALUE, 0},
            {Integer.MAX_VALUE, 1}, {64, 0}, {5, Integer.MAX_VALUE}};
        for (int[] w : wrong) {
            check.noArgument("alias(" + w[0] + ", " + w[1] + ")", () -> x.alias(w[0], w[1]));
        }
    }

    private static void shifts() {
        PackSeeds x = Check.with(2, 4, 1);
        check.due("all 0", 0, () -> x.shifts(0));
        x.care(0, 0, 0, 1);
        check.due("0 and 1 differ", 1, () -> x.shifts(0));
        x.care(0, 1, 3, 1);
        check.due("and in chain 1, 2 and 3", 4, () -> x.shifts(0));
        x.fill(1);
        check.due("filled with 1", 0, () -> x.shifts(0));
        x.care(0, 1, 2, 0);
        check.due("1 and 2, 2 and 3 differ", 5, () -> x.shifts(0));
        check.noIndex("shifts(1)", () -> x.shifts(1));
        check.noIndex("shifts(-1)", () -> x.shifts(-1));
        check.noIndex("shifts(24)", () -> x.shifts(24));
        PackSeeds y = Check.with(4, 1, 1);
        y.care(0, 1, 0, 1);
        check.due("one cell alone has none behind it", 0, () -> y.shifts(0));
        PackSeeds z = Check.with(4, 8, 1);
        for (int c = 0; c < 4; c++) {
            for (int k = 0; k < 8; k += 2) {
                z.care(0, c, k, 1);
            }
        }
        check.due("all differ", 4 * 28, () -> z.shifts(0));
    }
}
