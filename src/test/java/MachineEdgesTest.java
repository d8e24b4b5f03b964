/**
 * The boundary cases of promises 5 to 9 and 14 to 18, sentence by sentence; what is refused stands
 * in RefusedTest.
 */
public final class MachineEdgesTest {
    private static final int NONE = PackSeeds.NONE;
    private static final int MOST = Integer.MAX_VALUE;
    private static final Check check = new Check();

    public static void main(String[] args) {
        everyDegree();
        degreeTakesTapsAndSeeds();
        sameDegreeAgain();
        everyStage();
        sameTapAgain();
        leastAndGreatestSeed();
        seedOfAllCells();
        noSeedThen();
        seedsApart();
        stagesOfChainsGoAround();
        fillOfNothing();
        fillOfOneCell();
        fillBetweenCells();
        fillStaysInItsChain();
        otherFill();
        fillLeavesWhatIsCaredFor();
        signatureStagesGoAround();
        signatureOfNoPattern();
        signatureOfOneNumber();
        signatureBeyondTheLast();
        signatureOfGoneOnes();
        signatureOfMaskedCells();
        signatureOfTheLastClock();
        primitiveByDegree();
        primitiveChangesNothing();
        aliasesByDegree();
        aliasesAroundTheDegree();
        aliasesOfOtherTaps();
        shiftsOfOneCell();
        shiftsOfEightCells();
        shiftsStayInTheirChain();
        check.end();
    }

    private static PackSeeds ofDegree(int d, int chains, int cells) {
        PackSeeds x = Check.with(chains, cells, 1);
        x.degree(d);
        return x;
    }

    /** "it is not 1 .. 16": all of these are; "the last stage alone is tapped". */
    private static void everyDegree() {
        for (int d = 1; d <= 16; d++) {
            PackSeeds x = new PackSeeds(1, 1);
            int degree = d;
            check.due("degree(" + d + ")", "done", () -> Check.degree(x, degree));
            check.due("degree " + d, d, () -> x.count(3));
            for (int k = 0; k < d; k++) {
                int stage = k;
                check.due("degree " + d + ", " + k + " was not tapped", k < d - 1, () -> x.machine(stage, true));
            }
            check.noIndex("degree " + d + " has no stage " + d, () -> x.machine(degree, true));
        }
    }

    /** From the greatest to the least one and back: no tap and no seed of before is left. */
    private static void degreeTakesTapsAndSeeds() {
        PackSeeds x = Check.with(4, 8, 24);
        x.degree(16);
        for (int k = 0; k < 16; k++) {
            x.machine(k, true);
        }
        for (int p = 0; p < 24; p++) {
            x.seed(p);
        }
        check.due("seeds before", 24, () -> x.count(1));
        x.degree(1);
        check.due("seeds at degree 1", 0, () -> x.count(1));
        check.due("the first one's", NONE, () -> x.seedOf(0));
        check.due("the last one's", NONE, () -> x.seedOf(23));
        check.due("the only stage is tapped", false, () -> x.machine(0, true));
        x.degree(16);
        for (int k = 0; k < 15; k++) {
            int stage = k;
            check.due("back at 16, not tapped: " + k, false, () -> x.machine(stage, false));
        }
        check.due("back at 16, tapped: 15", false, () -> x.machine(15, true));
    }

    /** The words make no exception for the degree that the machine has. */
    private static void sameDegreeAgain() {
        for (int d = 2; d <= 16; d++) {
            PackSeeds x = ofDegree(d, 1, 1);
            int degree = d;
            x.machine(0, true);
            x.seed(0);
            check.due("degree(" + d + ") again", "done", () -> Check.degree(x, degree));
            check.due("no seed any more", NONE, () -> x.seedOf(0));
            check.due("no tap any more", false, () -> x.machine(0, false));
        }
    }

    /** "STAGES 0 .. D - 1": each one but the last one can be tapped and be untapped. */
    private static void everyStage() {
        for (int d = 1; d <= 16; d++) {
            PackSeeds x = ofDegree(d, 1, 1);
            for (int k = 0; k < d - 1; k++) {
                int stage = k;
                String which = "degree " + d + ", stage " + k + ": ";
                x.seed(0);
                check.due(which + "tapped", true, () -> x.machine(stage, true));
                check.due(which + "seed is lost by it", NONE, () -> x.seedOf(0));
                x.seed(0);
                check.due(which + "tapped again", false, () -> x.machine(stage, true));
                check.due(which + "seed stays", 0, () -> x.seedOf(0));
                check.due(which + "not tapped", true, () -> x.machine(stage, false));
                check.due(which + "seed is lost again", NONE, () -> x.seedOf(0));
                check.due(which + "not tapped again", false, () -> x.machine(stage, false));
            }
        }
    }

    /** "whether that is another thing than before (then no pattern has a seed)": all 24 or none. */
    private static void sameTapAgain() {
        PackSeeds x = Check.with(1, 1, 24);
        for (int p = 0; p < 24; p++) {
            x.seed(p);
        }
        check.due("the last stage tapped again", false, () -> x.machine(7, true));
        check.due("another one untapped again", false, () -> x.machine(6, false));
        check.due("seeds stay", 24, () -> x.count(1));
        check.due("another one tapped", true, () -> x.machine(6, true));
        check.due("no seeds", 0, () -> x.count(1));
    }

    /** "0 there is one, the least is its seed": from 0 to all stages 1, at each degree. */
    private static void leastAndGreatestSeed() {
        for (int d = 1; d <= 16; d++) {
            PackSeeds x = ofDegree(d, 4, 8);
            int greatest = (1 << d) - 1;
            check.due("degree " + d + ", nothing cared for", 0, () -> x.seed(0));
            check.due("degree " + d + ", the least", 0, () -> x.seedOf(0));
            NaiveModel model = new NaiveModel(4, 8);
            model.pattern();
            model.degree(d);
            for (int i = 0; i < 32; i++) {
                x.care(0, i / 8, i % 8, 1);
                model.care(0, i / 8, i % 8, 1);
            }
            int answer = model.seed(0);
            int seed = model.seedOf(0);
            check.due("degree " + d + ", all 1", answer, () -> x.seed(0));
            check.due("degree " + d + ", its seed", seed, () -> x.seedOf(0));
            if (d == 1 || d == 2 || d == 8 || d == 16) {
                check.due("degree " + d + ", the greatest", greatest, () -> x.seedOf(0));
            }
        }
    }

    /** Every cell is cared for, as a seed makes it: that seed, or a lesser one that makes the same. */
    private static void seedOfAllCells() {
        for (int d = 1; d <= 16; d++) {
            int seed = 0xACE1 & (1 << d) - 1;
            PackSeeds x = ofDegree(d, 4, 8);
            NaiveModel model = new NaiveModel(4, 8);
            model.pattern();
            model.degree(d);
            if (d > 1) {
                x.machine(0, true);
                model.machine(0, true);
            }
            int[][] made = model.made(seed);
            for (int i = 0; i < 32; i++) {
                x.care(0, i / 8, i % 8, made[i / 8][i % 8]);
                model.care(0, i / 8, i % 8, made[i / 8][i % 8]);
            }
            model.seed(0);
            int least = model.seedOf(0);
            check.due("degree " + d + ", all cells", 0, () -> x.seed(0));
            check.due("degree " + d + ", the least seed", least, () -> x.seedOf(0));
            check.due("degree " + d + ", again", 0, () -> x.seed(0));
            check.due("degree " + d + ", the same", least, () -> x.seedOf(0));
        }
    }

    /** "1 there is none (it has none then)"; "NONE": of each two cells, one is to get 1, the other one 0. */
    private static void noSeedThen() {
        for (int d = 1; d <= 16; d++) {
            for (int one = 0; one < 32; one++) {
                for (int zero = 0; zero < 32; zero++) {
                    if (one != zero) {
                        noSeedThen(d, one, zero);
                    }
                }
            }
        }
    }

    private static void noSeedThen(int d, int one, int zero) {
        PackSeeds x = ofDegree(d, 4, 8);
        String which = "degree " + d + ", 1 at " + one + ", 0 at " + zero + ", ";
        boolean none = heard(d, one) == heard(d, zero);
        x.seed(0);
        x.care(0, one / 8, one % 8, 1);
        x.care(0, zero / 8, zero % 8, 0);
        check.due(which + "seed(0)", none ? 1 : 0, () -> x.seed(0));
        check.due(which + "seedOf(0)", none ? NONE : 1 << heard(d, one), () -> x.seedOf(0));
        check.due(which + "those with a seed", none ? 0 : 1, () -> x.count(1));
        check.due(which + "its bits", "1 0",
            () -> x.bit(0, one / 8, one % 8) + " " + x.bit(0, zero / 8, zero % 8));
    }

    /** With the last stage alone tapped, the stages turn: a cell gets what one of them begins with. */
    private static int heard(int d, int place) {
        int clock = 7 - place % 8;
        return Math.floorMod(5 * (place / 8) + 1 - clock, d);
    }

    /** Patterns have seeds of their own. */
    private static void seedsApart() {
        PackSeeds x = Check.with(1, 2, 24);
        x.care(0, 0, 1, 1);
        x.care(23, 0, 0, 1);
        check.due("seed(0)", 0, () -> x.seed(0));
        check.due("the others have none", 1, () -> x.count(1));
        check.due("the last one has none", NONE, () -> x.seedOf(23));
        check.due("seed(23)", 0, () -> x.seed(23));
        check.due("the first one's", 2, () -> x.seedOf(0));
        check.due("the last one's", 1, () -> x.seedOf(23));
        check.due("another one's", NONE, () -> x.seedOf(22));
    }

    /** "(5 c + 1) modulo D": chains of one cell get one stage each. */
    private static void stagesOfChainsGoAround() {
        for (int d = 1; d <= 16; d++) {
            for (int c = 0; c < 4; c++) {
                int chain = c;
                PackSeeds x = ofDegree(d, 4, 1);
                x.care(0, c, 0, 1);
                x.seed(0);
                String which = "degree " + d + ", chain " + c;
                check.due(which, 1 << (5 * c + 1) % d, () -> x.seedOf(0));
                for (int o = 0; o < 4; o++) {
                    int other = o;
                    boolean same = (5 * o + 1) % d == (5 * c + 1) % d;
                    check.due(which + ", what chain " + o + " gets", same ? 1 : 0, () -> x.bit(0, other, 0));
                }
                check.due(which + ", its bit", 1, () -> x.bit(0, chain, 0));
            }
        }
    }

    /** "kind 0 (at first) 0; 1: 1; 2: .. else 0": nothing is cared for in the chain. */
    private static void fillOfNothing() {
        PackSeeds x = Check.with(4, 8, 1);
        check.due("the fill at first", "00000000 00000000 00000000 00000000", () -> Check.bits(x, 0, 4, 8));
        x.fill(1);
        check.due("fill 1", "11111111 11111111 11111111 11111111", () -> Check.bits(x, 0, 4, 8));
        x.fill(2);
        check.due("fill 2", "00000000 00000000 00000000 00000000", () -> Check.bits(x, 0, 4, 8));
        PackSeeds y = Check.with(1, 1, 1);
        y.fill(2);
        check.due("fill 2 of one cell", 0, () -> y.bit(0, 0, 0));
        y.care(0, 0, 0, 1);
        check.due("it is cared for", 1, () -> y.bit(0, 0, 0));
    }

    /** "without one the nearest with a greater number": one cell fills its chain, before and behind. */
    private static void fillOfOneCell() {
        for (int k = 0; k < 8; k++) {
            PackSeeds x = Check.with(1, 8, 1);
            x.fill(2);
            x.care(0, 0, k, 1);
            check.due("1 at cell " + k, "11111111", () -> Check.bits(x, 0, 1, 8));
            x.care(0, 0, k, 0);
            check.due("0 at cell " + k, "00000000", () -> Check.bits(x, 0, 1, 8));
        }
    }

    /** "the nearest cell of the chain with a lesser number": for each two cells. */
    private static void fillBetweenCells() {
        for (int low = 0; low < 8; low++) {
            for (int high = low + 1; high < 8; high++) {
                PackSeeds x = Check.with(1, 8, 1);
                x.fill(2);
                x.care(0, 0, low, 1);
                x.care(0, 0, high, 0);
                String due = "1".repeat(high) + "0".repeat(8 - high);
                check.due("1 at " + low + ", 0 at " + high, due, () -> Check.bits(x, 0, 1, 8));
                x.care(0, 0, low, 0);
                x.care(0, 0, high, 1);
                String turned = "0".repeat(high) + "1".repeat(8 - high);
                check.due("0 at " + low + ", 1 at " + high, turned, () -> Check.bits(x, 0, 1, 8));
            }
        }
    }

    /** "of the chain": the chain before ends, and the one behind begins, next to it. */
    private static void fillStaysInItsChain() {
        PackSeeds x = Check.with(3, 8, 1);
        x.fill(2);
        x.care(0, 0, 7, 1);
        x.care(0, 2, 0, 1);
        check.due("the chain between", "11111111 00000000 11111111", () -> Check.bits(x, 0, 3, 8));
        PackSeeds y = Check.with(3, 1, 1);
        y.fill(2);
        y.care(0, 0, 0, 1);
        y.care(0, 2, 0, 1);
        check.due("the chain of one cell between", "1 0 1", () -> Check.bits(y, 0, 3, 1));
    }

    /** "The fill from now on: whether it is another one." */
    private static void otherFill() {
        for (int before = 0; before < 3; before++) {
            for (int now = 0; now < 3; now++) {
                PackSeeds x = Check.with(1, 1, 1);
                x.fill(before);
                int kind = now;
                check.due("fill(" + now + ") after " + before, before != now, () -> x.fill(kind));
                check.due("fill(" + now + ") again", false, () -> x.fill(kind));
                check.due("bit by fill " + now, now == 1 ? 1 : 0, () -> x.bit(0, 0, 0));
            }
        }
        PackSeeds y = new PackSeeds(1, 1);
        check.due("fill(1) of no pattern", true, () -> y.fill(1));
        y.pattern();
        check.due("bit of a pattern made later", 1, () -> y.bit(0, 0, 0));
    }

    /** What the fill gives is not cared for, and what is cared for is not filled. */
    private static void fillLeavesWhatIsCaredFor() {
        PackSeeds x = Check.with(1, 3, 2);
        x.care(0, 0, 1, 0);
        x.fill(1);
        check.due("bits", "101", () -> Check.bits(x, 0, 1, 3));
        check.due("cells cared for", 1, () -> x.count(2));
        check.due("seed", 0, () -> x.seed(0));
        check.due("the least for what is cared for", 0, () -> x.seedOf(0));
        check.due("bits by the seed", "000", () -> Check.bits(x, 0, 1, 3));
        x.care(1, 0, 0, 0);
        x.care(1, 0, 1, 0);
        check.due("fills do not keep patterns from joining", 1, x::join);
        check.due("bits of the taker by the fill", "001", () -> Check.bits(x, 0, 1, 3));
    }

    /** "stage c modulo D". */
    private static void signatureStagesGoAround() {
        for (int d = 1; d <= 16; d++) {
            for (int c = 0; c < 4; c++) {
                PackSeeds x = ofDegree(d, 4, 1);
                x.care(0, c, 0, 1);
                check.due("degree " + d + ", chain " + c, 1 << c % d, () -> x.signature(0, 0));
            }
            PackSeeds y = ofDegree(d, 4, 1);
            int all = 0;
            for (int c = 0; c < 4; c++) {
                y.care(0, c, 0, 1);
                all ^= 1 << c % d;
            }
            check.due("degree " + d + ", all chains, modulo 2", all, () -> y.signature(0, 0));
        }
    }

    private static void signatureOfNoPattern() {
        PackSeeds x = new PackSeeds(4, 8);
        x.fill(1);
        check.due("signature(0, 0) of none", 0, () -> x.signature(0, 0));
        check.due("signature(0, 23) of none", 0, () -> x.signature(0, 23));
        check.due("signature(0, MAX) of none", 0, () -> x.signature(0, MOST));
        check.due("signature(MAX, MAX) of none", 0, () -> x.signature(MOST, MOST));
    }

    /** From a number to the same one, for the first to the last pattern. */
    private static void signatureOfOneNumber() {
        PackSeeds x = Check.with(1, 5, 24);
        for (int p = 0; p < 24; p++) {
            for (int k = 0; k < 5; k++) {
                x.care(p, 0, k, p + 1 >> k & 1);
            }
        }
        // At degree 8 five clocks bring nothing around: the cell 0 came last and stands in stage 0.
        for (int p = 0; p < 24; p++) {
            int q = p;
            check.due("signature of " + p, p + 1, () -> x.signature(q, q));
        }
        // Five steps more lift what one left by five stages, round to the first ones.
        for (int p = 0; p < 23; p++) {
            int q = p;
            int lifted = p + 1 << 5;
            int due = (lifted | lifted >> 8) & 255 ^ p + 2;
            check.due("signature of " + p + " and the next one", due, () -> x.signature(q, q + 1));
        }
    }

    /** Numbers beyond the last pattern are nobody's: they neither count nor make a step. */
    private static void signatureBeyondTheLast() {
        PackSeeds x = Check.with(1, 1, 2);
        x.care(0, 0, 0, 1);
        x.care(1, 0, 0, 1);
        check.due("to the last one", 3, () -> x.signature(0, 1));
        check.due("to one beyond", 3, () -> x.signature(0, 2));
        check.due("to 23", 3, () -> x.signature(0, 23));
        check.due("to 24", 3, () -> x.signature(0, 24));
        check.due("to the greatest number", 3, () -> x.signature(0, MOST));
        check.due("from the last one", 1, () -> x.signature(1, MOST));
        check.due("from one beyond", 0, () -> x.signature(2, 23));
        check.due("from 24", 0, () -> x.signature(24, 24));
        check.due("from the greatest number", 0, () -> x.signature(MOST, MOST));
        x.pattern();
        check.due("a new one makes a step", 6, () -> x.signature(0, 2));
    }

    /** "for each pattern that is not gone, by numbers". */
    private static void signatureOfGoneOnes() {
        PackSeeds x = Check.with(1, 1, 3);
        for (int p = 0; p < 3; p++) {
            x.care(p, 0, 0, 1);
        }
        x.found(0, 0);
        x.found(2, 2);
        check.due("before", 7, () -> x.signature(0, 2));
        x.drop();
        check.due("without 1, which makes no step", 3, () -> x.signature(0, 2));
        check.due("of 1, which is gone", 0, () -> x.signature(1, 1));
        check.due("of 1 and 2", 1, () -> x.signature(1, 2));
        x.join();
        check.due("of the taker", 1, () -> x.signature(0, 23));
        PackSeeds y = Check.with(1, 1, 24);
        y.fill(1);
        y.drop();
        check.due("of 24 gone ones", 0, () -> y.signature(0, 23));
    }

    /** "0 if its cell is masked", by what is cared for, by the fill and by a seed; steps are made still. */
    private static void signatureOfMaskedCells() {
        PackSeeds x = Check.with(4, 8, 2);
        x.degree(16);
        x.care(0, 0, 0, 1);
        x.fill(1);
        for (int i = 0; i < 32; i++) {
            x.mask(1, i / 8, i % 8);
        }
        check.due("all cells masked", 0, () -> x.signature(1, 1));
        long first = x.signature(0, 0);
        long turned = (first << 8 | first >> 8) & 65535;
        check.due("eight steps, which turn the stages halfway", turned, () -> x.signature(0, 1));
        PackSeeds y = Check.with(1, 2, 1);
        y.care(0, 0, 1, 1);
        y.care(0, 0, 0, 1);
        y.seed(0);
        check.due("by a seed", 3, () -> y.signature(0, 0));
        y.mask(0, 0, 1);
        check.due("by a seed, the cell of clock 0 masked", 1, () -> y.signature(0, 0));
        y.mask(0, 0, 0);
        check.due("by a seed, both masked", 0, () -> y.signature(0, 0));
    }

    /** "a step, then": what comes at the last clock is where it came in; a step is before clock 0, too. */
    private static void signatureOfTheLastClock() {
        PackSeeds x = Check.with(4, 8, 1);
        x.degree(16);
        x.care(0, 3, 0, 1);
        check.due("the last clock, the last chain", 8, () -> x.signature(0, 0));
        x.care(0, 3, 0, NONE);
        x.care(0, 3, 7, 1);
        check.due("the first clock, seven steps more", 8 << 7, () -> x.signature(0, 0));
        x.degree(4);
        check.due("degree 4, which they go around", 8 << 3 & 15 | 8 >> 1, () -> x.signature(0, 0));
        PackSeeds y = Check.with(1, 1, 2);
        y.degree(1);
        y.care(0, 0, 0, 1);
        check.due("degree 1", 1, () -> y.signature(0, 0));
        check.due("degree 1, the step keeps it", 1, () -> y.signature(0, 1));
        y.care(1, 0, 0, 1);
        check.due("degree 1, two cancel", 0, () -> y.signature(0, 1));
    }

    /** "for the first time after 2 to the D less 1 steps": there are so many such polynomials of a degree. */
    private static void primitiveByDegree() {
        int[] due = {1, 1, 2, 2, 6, 6, 18, 16, 48, 60, 176, 144, 630, 756, 1800, 2048};
        for (int d = 1; d <= due.length; d++) {
            int primitive = 0;
            for (int taps = 0; taps < 1 << d - 1; taps++) {
                primitive += tapped(d, taps).primitive() ? 1 : 0;
            }
            int had = primitive;
            check.due("primitive ones of degree " + d, due[d - 1], () -> had);
        }
        check.due("degree 16, x^16 + x^14 + x^13 + x^11 + 1", true, () -> tapped(16, 0x3400).primitive());
        check.due("degree 16, all tapped: back after 17", false, () -> tapped(16, 0x7FFF).primitive());
        check.due("degree 16, the last alone: back after 16", false, () -> tapped(16, 0).primitive());
        check.due("degree 16, x^16 + x^8 + 1: back after 24", false, () -> tapped(16, 1 << 7).primitive());
        check.due("degree 1", true, () -> tapped(1, 0).primitive());
        check.due("degree 2, the last alone: back after 2", false, () -> tapped(2, 0).primitive());
        check.due("degree 2, both", true, () -> tapped(2, 1).primitive());
    }

    private static PackSeeds tapped(int d, int taps) {
        PackSeeds x = new PackSeeds(1, 1);
        x.degree(d);
        for (int k = 0; k < d - 1; k++) {
            x.machine(k, (taps >> k & 1) != 0);
        }
        return x;
    }

    private static void primitiveChangesNothing() {
        PackSeeds x = Check.with(1, 1, 1);
        x.machine(3, true);
        x.machine(4, true);
        x.machine(5, true);
        x.seed(0);
        check.due("primitive()", true, x::primitive);
        check.due("primitive() again", true, x::primitive);
        check.due("the seed stays", 0, () -> x.seedOf(0));
        check.due("the taps stay", false, () -> x.machine(4, true));
        x.machine(4, false);
        check.due("primitive() of others", false, x::primitive);
    }

    /** "n is not 1 .. 60": all of these are, at each degree. */
    private static void aliasesByDegree() {
        for (int d = 1; d <= 16; d++) {
            PackSeeds x = ofDegree(d, 1, 1);
            NaiveModel model = new NaiveModel(1, 1);
            model.degree(d);
            for (int n = 1; n <= 60; n++) {
                int bits = n;
                long aliases = model.alias(n, 0);
                long streams = model.alias(n, 1);
                check.due("degree " + d + ", alias(" + n + ", 0)", aliases, () -> x.alias(bits, 0));
                check.due("degree " + d + ", alias(" + n + ", 1)", streams, () -> x.alias(bits, 1));
            }
        }
    }

    /** Shorter than the degree, as long as it, longer; no aliases: 0 and 1, as all numbers divide 0. */
    private static void aliasesAroundTheDegree() {
        for (int d = 1; d <= 16; d++) {
            PackSeeds x = ofDegree(d, 1, 1);
            int degree = d;
            check.due("degree " + d + ", one bit", 0, () -> x.alias(1, 0));
            check.due("degree " + d + ", one bit", 1, () -> x.alias(1, 1));
            check.due("degree " + d + ", as long", 0, () -> x.alias(degree, 0));
            check.due("degree " + d + ", as long", 1, () -> x.alias(degree, 1));
            check.due("degree " + d + ", a bit longer", 1, () -> x.alias(degree + 1, 0));
            check.due("degree " + d + ", a bit longer", (2L << d) - 1, () -> x.alias(degree + 1, 1));
            check.due("degree " + d + ", twice as long", 1, () -> x.alias(2 * degree, 0));
            check.due("degree " + d + ", twice as long", (1L << d) + 1, () -> x.alias(2 * degree, 1));
            if (d > 1) {
                check.due("degree " + d + ", a bit shorter", 0, () -> x.alias(degree - 1, 0));
                check.due("degree " + d + ", a bit shorter", 1, () -> x.alias(degree - 1, 1));
            }
        }
    }

    /** Streams are tried one by one for each machine of a small degree. */
    private static void aliasesOfOtherTaps() {
        for (int d = 1; d <= 5; d++) {
            for (int taps = 0; taps < 1 << d - 1; taps++) {
                PackSeeds x = tapped(d, taps);
                NaiveModel model = new NaiveModel(1, 1);
                model.degree(d);
                for (int k = 0; k < d - 1; k++) {
                    model.machine(k, (taps >> k & 1) != 0);
                }
                for (int n = 1; n <= 8; n++) {
                    int bits = n;
                    String which = "degree " + d + ", taps " + taps + ", alias(" + n + ", ";
                    check.due(which + "0)", model.alias(n, 0), () -> x.alias(bits, 0));
                    check.due(which + "1)", model.alias(n, 1), () -> x.alias(bits, 1));
                }
            }
        }
    }

    /** A chain of one cell has none behind it, whatever other chains have. */
    private static void shiftsOfOneCell() {
        for (int bits = 0; bits < 16; bits++) {
            PackSeeds x = Check.with(4, 1, 1);
            for (int c = 0; c < 4; c++) {
                x.care(0, c, 0, bits >> c & 1);
            }
            check.due("one cell each, " + bits, 0, () -> x.shifts(0));
        }
    }

    /** "for each cell k and the one behind it whose bits differ, k and 1": each k alone, then all. */
    private static void shiftsOfEightCells() {
        for (int k = 0; k < 7; k++) {
            PackSeeds x = Check.with(1, 8, 1);
            x.fill(2);
            x.care(0, 0, k, 1);
            x.care(0, 0, k + 1, 0);
            check.due(k + " and " + (k + 1) + " differ", k + 1, () -> x.shifts(0));
            x.care(0, 0, k, 0);
            x.care(0, 0, k + 1, 1);
            check.due(k + " and " + (k + 1) + " differ, turned", k + 1, () -> x.shifts(0));
        }
        PackSeeds y = Check.with(4, 8, 1);
        check.due("none differ, all 0", 0, () -> y.shifts(0));
        y.fill(1);
        check.due("none differ, all 1", 0, () -> y.shifts(0));
        for (int i = 0; i < 32; i++) {
            y.care(0, i / 8, i % 8, i % 2);
        }
        check.due("all differ", 4 * 28, () -> y.shifts(0));
    }

    /** "over all chains": the last cell of one and the first of the next one are no neighbours. */
    private static void shiftsStayInTheirChain() {
        for (int cells = 1; cells <= 8; cells++) {
            PackSeeds x = Check.with(4, cells, 1);
            for (int i = 0; i < 4 * cells; i++) {
                x.care(0, i / cells, i % cells, i / cells % 2);
            }
            check.due("chains of 0 and of 1, " + cells + " cells", 0, () -> x.shifts(0));
            x.fill(1);
            check.due("whatever the fill", 0, () -> x.shifts(0));
        }
    }
}
