/**
 * The boundary cases of promises 1 to 4, 10 to 13 and 19, sentence by sentence; what is refused
 * stands in RefusedTest.
 */
public final class PatternsEdgesTest {
    private static final int NONE = PackSeeds.NONE;
    private static final int LEAST = Integer.MIN_VALUE;
    private static final int MOST = Integer.MAX_VALUE;
    private static final Check check = new Check();

    public static void main(String[] args) {
        nearestShapeThereCanBe();
        noPatternsAtFirst();
        thereAre24();
        thereAre24WithGoneOnes();
        newPatternHasNothing();
        otherThingThanBefore();
        everyCellHasItsOwn();
        joinOfNone();
        joinOfOne();
        joinOf24();
        joinOf24ThatDiffer();
        joinOfTheFirstAndTheLast();
        joinPassesGoneOnesBy();
        joinOfOnesWithoutFaults();
        joinAgain();
        dropOfNone();
        dropOfOne();
        dropOf24Alike();
        dropOf24ThatDiffer();
        dropOf24WithoutFaults();
        dropPassesGoneOnesBy();
        dropOfWhatSeveralFind();
        dropOfAllFaults();
        dropLeavesTheRest();
        faults0To30();
        findersOf24();
        findersOfGoneOnes();
        maskOfEveryCell();
        maskChangesNoBit();
        countOfNoPattern();
        countOfGoneOnes();
        countOfAll();
        check.end();
    }

    /** "(the nearest there can be)", chains 1 .. 4, cells 1 .. 8. */
    private static void nearestShapeThereCanBe() {
        int[] asked = {LEAST, LEAST + 1, -257, -8, -4, -1, 0, 1, 2, 3, 4, 5, 6, 7, 8, 9, 10, 256, 257, MOST - 1, MOST};
        for (int chains : asked) {
            for (int cells : asked) {
                PackSeeds x = Check.with(chains, cells, 1);
                int lastChain = (chains < 1 ? 1 : chains > 4 ? 4 : chains) - 1;
                int lastCell = (cells < 1 ? 1 : cells > 8 ? 8 : cells) - 1;
                String shape = chains + " x " + cells + ": ";
                check.due(shape + "the first cell", 0, () -> x.bit(0, 0, 0));
                check.due(shape + "the last cell", true, () -> x.care(0, lastChain, lastCell, 1));
                check.due(shape + "what it has", 1, () -> x.bit(0, lastChain, lastCell));
                check.noIndex(shape + "a chain too many", () -> x.bit(0, lastChain + 1, 0));
                check.noIndex(shape + "a cell too many", () -> x.bit(0, 0, lastCell + 1));
                check.noIndex(shape + "chain -1", () -> x.bit(0, -1, 0));
                check.noIndex(shape + "cell -1", () -> x.bit(0, 0, -1));
            }
        }
    }

    /** "no patterns." */
    private static void noPatternsAtFirst() {
        PackSeeds x = new PackSeeds(4, 8);
        check.due("patterns of a new object", 0, () -> x.count(0));
        for (int p = 0; p < 24; p++) {
            int q = p;
            check.noIndex("seedOf(" + q + ") of a new object", () -> x.seedOf(q));
        }
    }

    /** "UnsupportedOperationException: there are 24."; "PATTERNS 0 .. 23". */
    private static void thereAre24() {
        PackSeeds x = new PackSeeds(1, 1);
        for (int p = 0; p < 24; p++) {
            int q = p;
            check.noIndex("pattern " + q + " before it is made", () -> x.seedOf(q));
            check.due("pattern() after " + q, q, x::pattern);
            check.due("pattern " + q, NONE, () -> x.seedOf(q));
            check.due("patterns", q + 1, () -> x.count(0));
        }
        check.due("pattern() after 24", "throws.UnsupportedOperationException", x::pattern);
        check.noIndex("pattern 24", () -> x.seedOf(24));
        check.due("the last one can be used", true, () -> x.care(23, 0, 0, 1));
        check.due("pattern() still", "throws.UnsupportedOperationException", x::pattern);
    }

    /** "One may be GONE.": its number stays its own, and it is one of the 24. */
    private static void thereAre24WithGoneOnes() {
        PackSeeds x = Check.with(1, 1, 23);
        check.due("drop() of 23", 0, x::drop);
        check.due("pattern() after 23 gone ones", 23, x::pattern);
        check.due("pattern() after 23 gone ones and one", "throws.UnsupportedOperationException", x::pattern);
        check.due("drop() of it", 0, x::drop);
        check.due("pattern() after 24 gone ones", "throws.UnsupportedOperationException", x::pattern);
        check.noIndex("the last one is gone", () -> x.seedOf(23));
    }

    /** "nothing CARED for (at first), masks, and the faults": also behind others that have such. */
    private static void newPatternHasNothing() {
        PackSeeds x = Check.with(2, 2, 1);
        x.care(0, 0, 0, 1);
        x.mask(0, 0, 0);
        x.found(0, 0);
        x.seed(0);
        check.due("the next one", 1, x::pattern);
        check.due("it has no seed", NONE, () -> x.seedOf(1));
        check.due("it has no bit", "00 00", () -> Check.bits(x, 1, 2, 2));
        check.due("it cares for nothing", false, () -> x.care(1, 0, 0, NONE));
        check.due("it has no mask", true, () -> x.mask(1, 0, 0));
        check.due("it finds nothing", true, () -> x.found(1, 0));
    }

    /** "0, 1 or (NONE) nothing: whether it is another thing than before (then it has no seed any more)". */
    private static void otherThingThanBefore() {
        int[] things = {NONE, 0, 1};
        for (int before : things) {
            for (int now : things) {
                PackSeeds x = Check.with(2, 2, 2);
                x.care(0, 1, 0, before);
                x.seed(0);
                x.seed(1);
                String from = "care of " + now + " after " + before;
                boolean other = before != now;
                int seed = x.seedOf(0);
                check.due(from, other, () -> x.care(0, 1, 0, now));
                check.due(from + ": its seed", other ? NONE : seed, () -> x.seedOf(0));
                check.due(from + ": the other one's seed", 0, () -> x.seedOf(1));
                check.due(from + " again", false, () -> x.care(0, 1, 0, now));
                check.due(from + ": cells cared for", now == NONE ? 0 : 1, () -> x.count(2));
                x.degree(8);
                check.due(from + ": the bit", now == 1 ? 1 : 0, () -> x.bit(0, 1, 0));
            }
        }
    }

    /** Each of the 4 times 8 cells, the first and the last one too, is apart from the others. */
    private static void everyCellHasItsOwn() {
        PackSeeds x = Check.with(4, 8, 1);
        for (int i = 0; i < 32; i++) {
            int chain = i / 8;
            int cell = i % 8;
            int cared = i + 1;
            check.due("care " + chain + " " + cell, true, () -> x.care(0, chain, cell, (chain + cell) % 2));
            check.due("cells cared for", cared, () -> x.count(2));
        }
        check.due("bits", "01010101 10101010 01010101 10101010", () -> Check.bits(x, 0, 4, 8));
        for (int i = 0; i < 32; i++) {
            int chain = i / 8;
            int cell = i % 8;
            int left = 31 - i;
            check.due("nothing at " + chain + " " + cell, true, () -> x.care(0, chain, cell, NONE));
            check.due("cells cared for still", left, () -> x.count(2));
        }
    }

    /** "TO JOIN", with no pattern. */
    private static void joinOfNone() {
        PackSeeds x = new PackSeeds(1, 1);
        check.due("join() of none", 0, x::join);
        check.due("pattern() after it", 0, x::pattern);
    }

    /** With one: it takes nothing, so it keeps its seed. */
    private static void joinOfOne() {
        PackSeeds x = Check.with(1, 4, 1);
        x.care(0, 0, 3, 1);
        x.seed(0);
        check.due("join() of one", 1, x::join);
        check.due("its seed", 2, () -> x.seedOf(0));
        check.due("what it cares for", 1, () -> x.count(2));
    }

    /** With all 24, which go together: the first one has all, the last one's too. */
    private static void joinOf24() {
        PackSeeds x = Check.with(4, 8, 24);
        for (int p = 0; p < 24; p++) {
            x.care(p, p / 8, p % 8, p % 2);
            x.mask(p, 3, p % 8);
            x.found(p, p);
            x.seed(p);
        }
        check.due("join() of 24", 1, x::join);
        check.due("what it cares for", 24, () -> x.count(2));
        check.due("bits", "01010101 01010101 01010101 00000000", () -> Check.bits(x, 0, 4, 8));
        check.due("its faults", 24, () -> x.count(4));
        check.due("who takes has no seed", NONE, () -> x.seedOf(0));
        for (int k = 0; k < 8; k++) {
            int cell = k;
            check.due("mask of " + cell, false, () -> x.mask(0, 3, cell));
        }
        for (int p = 1; p < 24; p++) {
            int q = p;
            check.noIndex(q + " is gone", () -> x.seedOf(q));
        }
        check.due("join() again", 1, x::join);
    }

    /** With all 24, none of which goes with another one: nothing is taken, no seed is lost. */
    private static void joinOf24ThatDiffer() {
        PackSeeds x = Check.with(1, 5, 24);
        for (int p = 0; p < 24; p++) {
            for (int k = 0; k < 5; k++) {
                x.care(p, 0, k, p >> k & 1);
            }
            x.seed(p);
        }
        check.due("join() of 24 that differ", 24, x::join);
        check.due("seeds", 24, () -> x.count(1));
        check.due("cells cared for", 120, () -> x.count(2));
    }

    /** Of 24, the first one goes with the last one alone. */
    private static void joinOfTheFirstAndTheLast() {
        PackSeeds x = Check.with(2, 5, 24);
        for (int p = 0; p < 24; p++) {
            for (int k = 0; k < 5; k++) {
                x.care(p, 0, k, p % 23 >> k & 1);
            }
        }
        x.care(23, 1, 0, 1);
        check.due("join() of 24, two alike", 23, x::join);
        check.due("the first one has the last one's", 1, () -> x.bit(0, 1, 0));
        check.noIndex("the last one is gone", () -> x.seedOf(23));
        check.due("the one before it is not", NONE, () -> x.seedOf(22));
    }

    /** With patterns that are gone: they neither take nor are they taken. */
    private static void joinPassesGoneOnesBy() {
        PackSeeds x = Check.with(1, 4, 5);
        for (int p = 0; p < 5; p++) {
            x.care(p, 0, 3, 1);
        }
        x.care(0, 0, 0, 1);
        x.care(2, 0, 1, 1);
        x.mask(2, 0, 1);
        x.found(1, 1);
        x.found(3, 3);
        x.found(4, 4);
        check.due("drop() of 0 and 2", 3, x::drop);
        x.care(4, 0, 2, 1);
        check.due("join() of 1, 3 and 4", 1, x::join);
        check.due("1 has its own and what 4 had", "0011", () -> Check.bits(x, 1, 1, 4));
        check.due("1 has no mask of 2", true, () -> x.mask(1, 0, 1));
        check.noIndex("0 is gone still", () -> x.seedOf(0));
        check.noIndex("2 is gone still", () -> x.seedOf(2));
        PackSeeds y = Check.with(1, 1, 24);
        y.drop();
        check.due("join() of 24 gone ones", 0, y::join);
    }

    /** With patterns that find no fault: that does not matter. */
    private static void joinOfOnesWithoutFaults() {
        PackSeeds x = Check.with(1, 1, 3);
        x.care(0, 0, 0, 0);
        x.care(1, 0, 0, 1);
        check.due("join() without faults", 2, x::join);
        check.due("faults", 0, () -> x.count(4));
        check.due("1 is not gone", NONE, () -> x.seedOf(1));
        check.noIndex("2, which cares for nothing, is gone", () -> x.seedOf(2));
    }

    /** A pattern that did not go with another one does when that cares no more. */
    private static void joinAgain() {
        PackSeeds x = Check.with(1, 1, 2);
        x.care(0, 0, 0, 0);
        x.care(1, 0, 0, 1);
        check.due("join() of 0 and 1", 2, x::join);
        x.care(1, 0, 0, NONE);
        check.due("join() of 0 and nothing", 1, x::join);
        check.due("what is cared for is the taker's", 0, () -> x.bit(0, 0, 0));
        check.due("pattern()", 2, x::pattern);
        check.due("join() with a new one behind a gone one", 1, x::join);
    }

    /** "TO DROP", with no pattern. */
    private static void dropOfNone() {
        PackSeeds x = new PackSeeds(1, 1);
        check.due("drop() of none", 0, x::drop);
        check.due("pattern() after it", 0, x::pattern);
    }

    /** With one: no other one finds its fault; without a fault there is none that another one must find. */
    private static void dropOfOne() {
        PackSeeds x = Check.with(1, 1, 1);
        x.found(0, 0);
        check.due("drop() of one with a fault", 1, x::drop);
        check.due("drop() of it again", 1, x::drop);
        PackSeeds y = Check.with(1, 1, 1);
        check.due("drop() of one without faults", 0, y::drop);
        check.noIndex("it is gone", () -> y.found(0, 0));
    }

    /** With all 24, from the last one to the first one, so that the first one stays. */
    private static void dropOf24Alike() {
        PackSeeds x = Check.with(1, 1, 24);
        for (int p = 0; p < 24; p++) {
            x.found(p, 0);
            x.found(p, 30);
        }
        check.due("drop() of 24 alike", 1, x::drop);
        check.due("0 stays", NONE, () -> x.seedOf(0));
        for (int p = 1; p < 24; p++) {
            int q = p;
            check.noIndex(q + " of 24 alike is gone", () -> x.seedOf(q));
        }
    }

    /** With all 24, each with a fault of its own beside one that all find. */
    private static void dropOf24ThatDiffer() {
        PackSeeds x = Check.with(1, 1, 24);
        for (int p = 0; p < 24; p++) {
            x.found(p, p);
            x.found(p, 30);
        }
        check.due("drop() of 24 that differ", 24, x::drop);
        check.due("their faults", 25, () -> x.count(4));
    }

    /** With all 24, none of which finds a fault. */
    private static void dropOf24WithoutFaults() {
        PackSeeds x = Check.with(1, 1, 24);
        check.due("drop() of 24 without faults", 0, x::drop);
        for (int p = 0; p < 24; p++) {
            int q = p;
            check.noIndex(q + " without faults is gone", () -> x.seedOf(q));
        }
        PackSeeds y = Check.with(1, 1, 24);
        y.found(23, 7);
        check.due("drop() of 24, the last one with a fault", 1, y::drop);
        check.due("it stays", NONE, () -> y.seedOf(23));
    }

    /** "found by another one that is not" gone: what gone ones found does not count. */
    private static void dropPassesGoneOnesBy() {
        PackSeeds x = Check.with(1, 1, 2);
        x.found(0, 5);
        x.found(1, 5);
        check.due("drop() of two alike", 1, x::drop);
        check.due("drop() again, one gone", 1, x::drop);
        x.pattern();
        x.found(2, 5);
        check.due("drop() with a new one", 1, x::drop);
        check.noIndex("the new one is gone", () -> x.seedOf(2));
        check.due("the first one stays", NONE, () -> x.seedOf(0));
        PackSeeds y = Check.with(1, 1, 2);
        y.found(1, 5);
        y.join();
        check.due("drop() of a taker whose fault the taken one found", 1, y::drop);
    }

    /** "each of its faults": by several others, or all but one. */
    private static void dropOfWhatSeveralFind() {
        PackSeeds x = Check.with(1, 1, 3);
        x.found(0, 1);
        x.found(1, 2);
        x.found(2, 1);
        x.found(2, 2);
        check.due("drop() of what two others find", 2, x::drop);
        check.noIndex("2 is gone", () -> x.seedOf(2));
        PackSeeds y = Check.with(1, 1, 3);
        y.found(0, 1);
        y.found(1, 2);
        y.found(2, 1);
        y.found(2, 3);
        check.due("drop() of what others find but for one", 2, y::drop);
        check.noIndex("0 is gone, as 2 finds its fault", () -> y.seedOf(0));
        check.due("2 stays", NONE, () -> y.seedOf(2));
    }

    /** Each of the faults 0 .. 30 keeps the only one that finds it. */
    private static void dropOfAllFaults() {
        for (int f = 0; f < 31; f++) {
            PackSeeds x = Check.with(1, 1, 2);
            for (int g = 0; g < 31; g++) {
                x.found(0, g);
                if (g != f) {
                    x.found(1, g);
                }
            }
            check.due("drop(), fault " + f + " found by 0 alone", 1, x::drop);
            check.due("0 finds all", 31, () -> x.count(4));
        }
    }

    /** Those that stay keep what they have; no one takes what a dropped one had. */
    private static void dropLeavesTheRest() {
        PackSeeds x = Check.with(1, 4, 2);
        x.care(0, 0, 3, 1);
        x.care(1, 0, 2, 1);
        x.mask(1, 0, 2);
        x.found(0, 1);
        x.found(1, 1);
        x.seed(0);
        check.due("drop()", 1, x::drop);
        check.due("the seed stays", 2, () -> x.seedOf(0));
        check.due("what is cared for stays", 1, () -> x.count(2));
        check.due("no mask comes", true, () -> x.mask(0, 0, 2));
    }

    /** "the faults 0 .. 30"; "whether it did not before". */
    private static void faults0To30() {
        PackSeeds x = Check.with(1, 1, 2);
        for (int f = 0; f < 31; f++) {
            int g = f;
            check.due("finders(" + g + ") before", 0, () -> x.finders(g));
            check.due("found(0, " + g + ")", true, () -> x.found(0, g));
            check.due("found(0, " + g + ") again", false, () -> x.found(0, g));
            check.due("finders(" + g + ")", 1, () -> x.finders(g));
            check.due("faults", g + 1, () -> x.count(4));
            check.due("found(1, " + g + ")", true, () -> x.found(1, g));
            check.due("finders(" + g + ") then", 2, () -> x.finders(g));
        }
        check.due("no seed by it", NONE, () -> x.seedOf(0));
    }

    private static void findersOf24() {
        PackSeeds x = Check.with(1, 1, 24);
        for (int p = 0; p < 24; p++) {
            int finding = p + 1;
            x.found(p, 30);
            x.found(23 - p, 0);
            check.due("finders(30)", finding, () -> x.finders(30));
            check.due("finders(0)", finding, () -> x.finders(0));
        }
        check.due("finders(29)", 0, () -> x.finders(29));
    }

    /** "How many patterns that are not gone find a fault." */
    private static void findersOfGoneOnes() {
        PackSeeds x = new PackSeeds(1, 1);
        check.due("finders(0) of no pattern", 0, () -> x.finders(0));
        check.due("finders(30) of no pattern", 0, () -> x.finders(30));
        PackSeeds y = Check.with(1, 1, 3);
        y.found(0, 4);
        y.found(1, 4);
        y.found(2, 4);
        y.join();
        check.due("finders(4), two taken", 1, () -> y.finders(4));
        check.noIndex("a gone one finds nothing", () -> y.found(1, 4));
        check.due("finders(4) after that", 1, () -> y.finders(4));
    }

    /** "whether it was not", for the first to the last cell. */
    private static void maskOfEveryCell() {
        PackSeeds x = Check.with(4, 8, 2);
        for (int i = 0; i < 32; i++) {
            int chain = i / 8;
            int cell = i % 8;
            check.due("mask " + chain + " " + cell, true, () -> x.mask(0, chain, cell));
            check.due("mask again", false, () -> x.mask(0, chain, cell));
            check.due("mask of the other one", true, () -> x.mask(1, chain, cell));
        }
        for (int i = 0; i < 32; i++) {
            int chain = i / 8;
            int cell = i % 8;
            check.due("masked still " + chain + " " + cell, false, () -> x.mask(0, chain, cell));
        }
    }

    private static void maskChangesNoBit() {
        PackSeeds x = Check.with(1, 3, 2);
        x.care(0, 0, 1, 1);
        x.care(1, 0, 2, 1);
        x.seed(1);
        x.mask(0, 0, 1);
        x.mask(1, 0, 2);
        check.due("a masked cell has its bit", "010", () -> Check.bits(x, 0, 1, 3));
        check.due("a masked cell is cared for", 2, () -> x.count(2));
        check.due("a masked cell is shifted in", 3, () -> x.shifts(0));
        check.due("the seed stays", 2, () -> x.seedOf(1));
        check.due("no mask on what is made", 1, () -> x.bit(1, 0, 2));
    }

    /** "each what with no pattern at all". */
    private static void countOfNoPattern() {
        PackSeeds x = new PackSeeds(4, 8);
        int[] due = {0, 0, 0, 8, 0};
        for (int what = 0; what < 5; what++) {
            int w = what;
            check.due("count(" + w + ") of none", due[w], () -> x.count(w));
        }
        x.degree(16);
        check.due("count(3) of the greatest", 16, () -> x.count(3));
        x.degree(1);
        check.due("count(3) of the least", 1, () -> x.count(3));
    }

    /** When all are gone, it is as with none; taken ones count no more, nor do their faults twice. */
    private static void countOfGoneOnes() {
        PackSeeds x = Check.with(1, 2, 2);
        x.care(0, 0, 0, 1);
        x.care(1, 0, 1, 1);
        x.seed(0);
        x.seed(1);
        check.due("drop()", 0, x::drop);
        int[] dropped = {0, 0, 0, 8, 0};
        PackSeeds y = Check.with(1, 2, 2);
        y.care(0, 0, 0, 1);
        y.care(1, 0, 0, 1);
        y.found(0, 1);
        y.found(1, 1);
        y.found(1, 2);
        y.seed(1);
        check.due("join()", 1, y::join);
        int[] joined = {1, 0, 1, 8, 2};
        for (int what = 0; what < 5; what++) {
            int w = what;
            check.due("count(" + w + ") of dropped ones", dropped[w], () -> x.count(w));
            check.due("count(" + w + ") of joined ones", joined[w], () -> y.count(w));
        }
    }

    /** As many as 512 calls can make: 24 patterns, 24 seeds, 12 patterns' cells, 31 faults. */
    private static void countOfAll() {
        PackSeeds x = Check.with(4, 8, 24);
        for (int p = 0; p < 24; p++) {
            x.found(p, p);
            x.seed(p);
        }
        for (int f = 24; f < 31; f++) {
            x.found(0, f);
        }
        check.due("count(0) of all", 24, () -> x.count(0));
        check.due("count(1) of all", 24, () -> x.count(1));
        check.due("count(4) of all", 31, () -> x.count(4));
        for (int p = 0; p < 12; p++) {
            for (int i = 0; i < 32; i++) {
                x.care(p, i / 8, i % 8, i % 2);
            }
        }
        check.due("count(2) of all of 12", 12 * 32, () -> x.count(2));
        check.due("count(1) without these 12", 12, () -> x.count(1));
    }
}
