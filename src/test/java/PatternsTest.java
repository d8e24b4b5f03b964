/** Promises 1 to 4, 10 to 13 and 19: patterns, what they care for and find, joining, dropping. */
public final class PatternsTest {
    private static final int NONE = PackSeeds.NONE;
    private static final Check check = new Check();

    public static void main(String[] args) {
        newObject();
        nearestShape();
        patternNumbers();
        goneNumbersStayTaken();
        care();
        careRefuses();
        careTakesTheSeed();
        joinTakesInOrder();
        joinTakesByThen();
        joinHandsOverAll();
        joinAndSeeds();
        found();
        dropFromTheLast();
        dropOfAll();
        dropWithoutFaults();
        finders();
        mask();
        gonePatternsAreRefused();
        count();
        check.end();
    }

    private static void newObject() {
        PackSeeds x = new PackSeeds(2, 3);
        check.due("new count(0)", 0, () -> x.count(0));
        check.due("new count(1)", 0, () -> x.count(1));
        check.due("new count(2)", 0, () -> x.count(2));
        check.due("new count(3)", 8, () -> x.count(3));
        check.due("new count(4)", 0, () -> x.count(4));
        check.noIndex("new bit(0, 0, 0)", () -> x.bit(0, 0, 0));
        check.due("new join()", 0, x::join);
        check.due("new drop()", 0, x::drop);
        check.due("new signature(0, 23)", 0, () -> x.signature(0, 23));
        check.due("new fill(0)", false, () -> x.fill(0));
        check.due("pattern()", 0, x::pattern);
        check.due("bit(0, 1, 2) of 2 x 3", 0, () -> x.bit(0, 1, 2));
        check.noIndex("bit(0, 2, 2) of 2 x 3", () -> x.bit(0, 2, 2));
        check.noIndex("bit(0, 1, 3) of 2 x 3", () -> x.bit(0, 1, 3));
    }

    private static void nearestShape() {
        int[][] asked = {{0, 0}, {-5, -1}, {Integer.MIN_VALUE, Integer.MIN_VALUE}, {1, 1}, {4, 8}, {5, 9},
            {Integer.MAX_VALUE, Integer.MAX_VALUE}, {0, 9}, {5, 0}};
        int[][] had = {{1, 1}, {1, 1}, {1, 1}, {1, 1}, {4, 8}, {4, 8}, {4, 8}, {1, 8}, {4, 1}};
        for (int i = 0; i < asked.length; i++) {
            PackSeeds x = Check.with(asked[i][0], asked[i][1], 1);
            int chains = had[i][0];
            int cells = had[i][1];
            String shape = asked[i][0] + " x " + asked[i][1] + ": ";
            check.due(shape + "last cell", 0, () -> x.bit(0, chains - 1, cells - 1));
            check.noIndex(shape + "chain too many", () -> x.bit(0, chains, cells - 1));
            check.noIndex(shape + "cell too many", () -> x.bit(0, chains - 1, cells));
        }
    }

    private static void patternNumbers() {
        PackSeeds x = new PackSeeds(1, 1);
        for (int i = 0; i < 24; i++) {
            check.due("pattern()", i, x::pattern);
        }
        check.due("pattern() of 24", "throws.UnsupportedOperationException", x::pattern);
        check.due("count(0) after it", 24, () -> x.count(0));
    }

    private static void goneNumbersStayTaken() {
        PackSeeds x = Check.with(1, 1, 3);
        check.due("join() of three alike", 1, x::join);
        check.due("pattern() after gone ones", 3, x::pattern);
        for (int i = 4; i < 24; i++) {
            x.pattern();
        }
        check.due("join() of all", 1, x::join);
        check.due("pattern() after 24, 23 gone", "throws.UnsupportedOperationException", x::pattern);
    }

    private static void care() {
        PackSeeds x = Check.with(2, 2, 2);
        check.due("care NONE at first", false, () -> x.care(0, 0, 0, NONE));
        check.due("care 0", true, () -> x.care(0, 0, 0, 0));
        check.due("care 0 again", false, () -> x.care(0, 0, 0, 0));
        check.due("care 1", true, () -> x.care(0, 0, 0, 1));
        check.due("care 1 again", false, () -> x.care(0, 0, 0, 1));
        check.due("bit cared for", 1, () -> x.bit(0, 0, 0));
        check.due("bit of the other pattern", 0, () -> x.bit(1, 0, 0));
        check.due("care NONE", true, () -> x.care(0, 0, 0, NONE));
        check.due("care NONE again", false, () -> x.care(0, 0, 0, NONE));
        check.due("bit no more cared for", 0, () -> x.bit(0, 0, 0));
        check.due("care at the last cell", true, () -> x.care(1, 1, 1, 1));
        check.due("cells cared for", 1, () -> x.count(2));
    }

    private static void careRefuses() {
        PackSeeds x = Check.with(2, 3, 1);
        x.care(0, 0, 0, 1);
        int[] wrongValues = {2, -2, Integer.MIN_VALUE, Integer.MAX_VALUE};
        for (int v : wrongValues) {
            check.noArgument("care v = " + v, () -> x.care(0, 0, 0, v));
            check.noIndex("care pattern and v = " + v, () -> x.care(1, 0, 0, v));
            check.noIndex("care chain and v = " + v, () -> x.care(0, 2, 0, v));
            check.noIndex("care cell and v = " + v, () -> x.care(0, 0, 3, v));
        }
        int[][] wrongPlaces = {{-1, 0, 0}, {1, 0, 0}, {24, 0, 0}, {Integer.MAX_VALUE, 0, 0},
            {Integer.MIN_VALUE, 0, 0}, {0, -1, 0}, {0, 2, 0}, {0, Integer.MIN_VALUE, 0},
            {0, 0, -1}, {0, 0, 3}, {0, 0, Integer.MAX_VALUE}};
        for (int[] at : wrongPlaces) {
            String where = "(" + at[0] + ", " + at[1] + ", " + at[2] + ")";
            check.noIndex("care" + where, () -> x.care(at[0], at[1], at[2], 0));
            check.noIndex("bit" + where, () -> x.bit(at[0], at[1], at[2]));
            check.noIndex("mask" + where, () -> x.mask(at[0], at[1], at[2]));
        }
        check.due("nothing changed", "1 1", () -> x.bit(0, 0, 0) + " " + x.count(2));
    }

    private static void careTakesTheSeed() {
        PackSeeds x = Check.with(1, 4, 1);
        x.care(0, 0, 0, 1);
        x.seed(0);
        check.due("care of the same", false, () -> x.care(0, 0, 0, 1));
        check.due("seed stays", 1, () -> x.count(1));
        check.noArgument("care of 2", () -> x.care(0, 0, 1, 2));
        check.due("seed stays after a throw", 1, () -> x.count(1));
        check.due("care of another", true, () -> x.care(0, 0, 1, 1));
        check.due("seed is lost", NONE, () -> x.seedOf(0));
        x.seed(0);
        check.due("care of nothing", true, () -> x.care(0, 0, 1, NONE));
        check.due("seed is lost again", NONE, () -> x.seedOf(0));
    }

    /** 0 and 2 go together, and 1 and 3; 0 is asked before 1. */
    private static void joinTakesInOrder() {
        PackSeeds x = Check.with(1, 2, 4);
        x.care(0, 0, 0, 0);
        x.care(1, 0, 0, 1);
        x.care(2, 0, 1, 1);
        x.care(3, 0, 0, 1);
        check.due("join()", 2, x::join);
        check.due("0 took 2", 1, () -> x.bit(0, 0, 1));
        check.due("1 took 3, not 2", 0, () -> x.bit(1, 0, 1));
        check.noIndex("2 is gone", () -> x.seedOf(2));
        check.noIndex("3 is gone", () -> x.seedOf(3));
        check.due("join() again", 2, x::join);
    }

    /** 0 alone goes with 2, but no more when it has taken 1. */
    private static void joinTakesByThen() {
        PackSeeds x = Check.with(1, 3, 4);
        x.care(0, 0, 0, 1);
        x.care(1, 0, 1, 0);
        x.care(2, 0, 1, 1);
        x.care(3, 0, 2, 1);
        check.due("join()", 2, x::join);
        check.due("0 took 1 and 3", "1 0 1", () -> x.bit(0, 0, 0) + " " + x.bit(0, 0, 1) + " " + x.bit(0, 0, 2));
        check.due("2 stays", "0 1 0", () -> x.bit(2, 0, 0) + " " + x.bit(2, 0, 1) + " " + x.bit(2, 0, 2));
    }

    private static void joinHandsOverAll() {
        PackSeeds x = Check.with(2, 2, 2);
        x.care(0, 0, 0, 1);
        x.care(1, 1, 1, 1);
        x.care(1, 1, 0, 0);
        x.mask(1, 0, 1);
        x.found(0, 0);
        x.found(1, 30);
        check.due("join()", 1, x::join);
        check.due("cells cared for", 3, () -> x.count(2));
        check.due("0 is cared for, too", false, () -> x.care(0, 1, 0, 0));
        check.due("1 is cared for, too", false, () -> x.care(0, 1, 1, 1));
        check.due("mask is the taker's", false, () -> x.mask(0, 0, 1));
        check.due("fault is the taker's", false, () -> x.found(0, 30));
        check.due("its own fault stays", false, () -> x.found(0, 0));
        check.due("faults", 2, () -> x.count(4));
    }

    private static void joinAndSeeds() {
        PackSeeds x = Check.with(1, 2, 3);
        x.care(0, 0, 0, 0);
        x.care(1, 0, 0, 1);
        x.care(2, 0, 0, 0);
        x.seed(0);
        x.seed(1);
        x.seed(2);
        check.due("join()", 2, x::join);
        check.due("the taker has no seed", NONE, () -> x.seedOf(0));
        check.due("who takes nothing keeps it", 1, () -> x.count(1));
        x.seed(0);
        check.due("join() of none", 2, x::join);
        check.due("both keep theirs", 2, () -> x.count(1));
    }

    private static void found() {
        PackSeeds x = Check.with(1, 1, 2);
        check.due("found(0, 30)", true, () -> x.found(0, 30));
        check.due("found(0, 30) again", false, () -> x.found(0, 30));
        check.due("found(1, 30)", true, () -> x.found(1, 30));
        check.due("found(0, 0)", true, () -> x.found(0, 0));
        check.noIndex("found(0, 31)", () -> x.found(0, 31));
        check.noIndex("found(0, 32)", () -> x.found(0, 32));
        check.noIndex("found(0, -1)", () -> x.found(0, -1));
        check.noIndex("found(2, 0)", () -> x.found(2, 0));
        check.noIndex("found(-1, 0)", () -> x.found(-1, 0));
        check.due("faults", 2, () -> x.count(4));
    }

    /** 0 {1}, 1 {1, 2}, 2 {2}: from the last one, 2 goes, 1 must stay, 0 goes. */
    private static void dropFromTheLast() {
        PackSeeds x = Check.with(1, 1, 3);
        x.found(0, 1);
        x.found(1, 1);
        x.found(1, 2);
        x.found(2, 2);
        check.due("drop()", 1, x::drop);
        check.due("1 stays", NONE, () -> x.seedOf(1));
        check.noIndex("0 is gone", () -> x.seedOf(0));
        check.noIndex("2 is gone", () -> x.seedOf(2));
        check.due("drop() again", 1, x::drop);
        PackSeeds y = Check.with(1, 1, 2);
        y.found(0, 5);
        y.found(1, 5);
        check.due("drop() of two alike", 1, y::drop);
        check.due("the first stays", NONE, () -> y.seedOf(0));
    }

    private static void dropOfAll() {
        PackSeeds x = Check.with(1, 1, 24);
        for (int i = 0; i < 24; i++) {
            x.found(i, 30);
        }
        check.due("drop() of 24 alike", 1, x::drop);
        check.noIndex("the last is gone", () -> x.seedOf(23));
        check.due("the first of 24 stays", NONE, () -> x.seedOf(0));
    }

    private static void dropWithoutFaults() {
        PackSeeds x = Check.with(1, 1, 2);
        x.found(0, 0);
        check.due("drop() of one without faults", 1, x::drop);
        check.noIndex("it is gone", () -> x.seedOf(1));
        PackSeeds y = Check.with(1, 1, 1);
        check.due("drop() of the only one, without faults", 0, y::drop);
    }

    private static void finders() {
        PackSeeds x = Check.with(1, 1, 3);
        x.found(0, 7);
        x.found(1, 7);
        x.found(1, 8);
        check.due("finders(7)", 2, () -> x.finders(7));
        check.due("finders(8)", 1, () -> x.finders(8));
        check.due("finders(9)", 0, () -> x.finders(9));
        check.due("finders(0)", 0, () -> x.finders(0));
        check.due("finders(30)", 0, () -> x.finders(30));
        check.noIndex("finders(-1)", () -> x.finders(-1));
        check.noIndex("finders(31)", () -> x.finders(31));
        x.drop();
        check.due("finders(7) after drop", 1, () -> x.finders(7));
    }

    private static void mask() {
        PackSeeds x = Check.with(2, 2, 2);
        x.seed(0);
        check.due("mask", true, () -> x.mask(0, 1, 1));
        check.due("mask again", false, () -> x.mask(0, 1, 1));
        check.due("mask of the other pattern", true, () -> x.mask(1, 1, 1));
        check.due("mask leaves the seed", 0, () -> x.seedOf(0));
        check.due("mask leaves the bits", 0, () -> x.bit(0, 1, 1));
    }

    private static void gonePatternsAreRefused() {
        PackSeeds x = Check.with(2, 2, 2);
        x.join();
        check.noIndex("care", () -> x.care(1, 0, 0, 5));
        check.noIndex("seed", () -> x.seed(1));
        check.noIndex("seedOf", () -> x.seedOf(1));
        check.noIndex("bit", () -> x.bit(1, 0, 0));
        check.noIndex("found", () -> x.found(1, 0));
        check.noIndex("mask", () -> x.mask(1, 0, 0));
        check.noIndex("shifts", () -> x.shifts(1));
    }

    private static void count() {
        PackSeeds x = Check.with(2, 2, 3);
        x.care(0, 0, 0, 0);
        x.care(1, 0, 0, 1);
        x.care(1, 0, 1, 1);
        x.care(2, 0, 0, 1);
        x.found(0, 3);
        x.found(1, 3);
        x.found(2, 4);
        x.seed(1);
        x.seed(2);
        x.degree(8);
        x.seed(2);
        x.seed(0);
        check.due("count(0)", 3, () -> x.count(0));
        check.due("count(1)", 2, () -> x.count(1));
        check.due("count(2)", 4, () -> x.count(2));
        check.due("count(3)", 8, () -> x.count(3));
        check.due("count(4)", 2, () -> x.count(4));
        check.noIndex("count(-1)", () -> x.count(-1));
        check.noIndex("count(5)", () -> x.count(5));
        check.due("drop()", 2, x::drop);
        check.due("count(0) without the gone", 2, () -> x.count(0));
        check.due("count(1) without the gone", 2, () -> x.count(1));
        check.due("count(2) without the gone", 2, () -> x.count(2));
        check.due("count(4) without the gone", 2, () -> x.count(4));
        PackSeeds y = Check.with(1, 1, 2);
        y.found(0, 1);
        y.seed(0);
        y.seed(1);
        y.care(1, 0, 0, 1);
        y.seed(1);
        y.drop();
        check.due("count(1), one with a seed gone", 1, () -> y.count(1));
        check.due("count(2), the caring one gone", 0, () -> y.count(2));
    }
}
