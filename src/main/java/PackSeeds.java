/**
 * Patterns for chains of cells, packed: joined, dropped, made by seeds of a machine that shifts,
 * filled, masked, their signatures; what the machine's polynomial is worth.
 */
public final class PackSeeds {
    /** Nothing is cared for; there is no seed. */
    public static final int NONE = -1;

    private static final int MOST_CHAINS = 4;
    private static final int MOST_CELLS = 8;
    private static final int MOST_PATTERNS = 24;
    private static final int MOST_FAULTS = 31;
    private static final int MOST_STAGES = 16;
    private static final int FIRST_DEGREE = 8;
    private static final int LONGEST_STREAM = 60;
    private static final int FILL_WITH_0 = 0;
    private static final int FILL_WITH_1 = 1;
    private static final int FILL_FROM_NEAREST = 2;

    private final Shape shape;
    private final Machine machine;
    private final Pattern[] patterns;
    private int made;
    private int fillKind;

    /** So many chains and cells of each (the nearest there can be), no patterns. */
    public PackSeeds(int chains, int length) {
        shape = new Shape(chains, length);
        machine = new Machine(shape);
        patterns = new Pattern[MOST_PATTERNS];
        made = 0;
        fillKind = FILL_WITH_0;
    }

    /** A new pattern: its number. */
    public int pattern() throws UnsupportedOperationException {
        if (made < 0 || made >= patterns.length) {
            throw new UnsupportedOperationException("there are 24 patterns");
        }
        int number = made;
        patterns[number] = new Pattern();
        made = number + 1;
        return number;
    }

    /** What a pattern cares for at a cell: whether it is another thing than before. */
    public boolean care(int pattern, int chain, int cell, int v)
            throws IndexOutOfBoundsException, IllegalArgumentException {
        Pattern it = present(pattern);
        int place = existingPlace(chain, cell);
        if (v != NONE && v != 0 && v != 1) {
            throw new IllegalArgumentException("a cell is cared for as 0, 1 or NONE");
        }
        return it.setCare(place, v);
    }

    /** Patterns are joined: how many are not gone. */
    public int join() {
        for (int i = 0; i < patterns.length; i++) {
            Pattern taker = presentOrNull(i);
            if (taker != null) {
                takeFromBehind(taker, i);
            }
        }
        return countPresent();
    }

    /** The machine has another degree; the last stage alone is tapped; no pattern has a seed. */
    public void degree(int d) throws IllegalArgumentException {
        if (d < 1 || d > MOST_STAGES) {
            throw new IllegalArgumentException("a degree is 1 .. 16");
        }
        machine.restart(d);
        forgetSeeds();
    }

    /** A stage is tapped, or not: whether that is another thing than before. */
    public boolean machine(int k, boolean tap)
            throws IndexOutOfBoundsException, IllegalArgumentException {
        if (k < 0 || k >= machine.stages) {
            throw new IndexOutOfBoundsException("there is no such stage");
        }
        if (k == machine.stages - 1 && !tap) {
            throw new IllegalArgumentException("the last stage is always tapped");
        }
        if (machine.isTapped(k) == tap) {
            return false;
        }
        machine.turnTap(k);
        forgetSeeds();
        return true;
    }

    /** A seed is looked for that makes a pattern: 0 there is one, 1 there is none. */
    public int seed(int pattern) throws IndexOutOfBoundsException {
        Pattern it = present(pattern);
        it.seed = machine.leastSeed(it.cared, it.values);
        return it.seed == NONE ? 1 : 0;
    }

    /** The seed of a pattern; NONE. */
    public int seedOf(int pattern) throws IndexOutOfBoundsException {
        return present(pattern).seed;
    }

    /** A bit of a pattern. */
    public int bit(int pattern, int chain, int cell) throws IndexOutOfBoundsException {
        Pattern it = present(pattern);
        int place = existingPlace(chain, cell);
        return (bitsOf(it) & place) != 0 ? 1 : 0;
    }

    /** A pattern finds a fault: whether it did not before. */
    public boolean found(int pattern, int fault) throws IndexOutOfBoundsException {
        Pattern it = present(pattern);
        int asSet = existingFault(fault);
        boolean isNew = (it.faults & asSet) == 0;
        it.faults |= asSet;
        return isNew;
    }

    /** Patterns are dropped: how many are not gone. */
    public int drop() {
        for (int i = patterns.length - 1; i >= 0; i--) {
            Pattern it = presentOrNull(i);
            if (it != null && (it.faults & ~faultsOfAllBut(i)) == 0) {
                it.gone = true;
            }
        }
        return countPresent();
    }

    /** How many patterns that are not gone find a fault. */
    public int finders(int fault) throws IndexOutOfBoundsException {
        int asSet = existingFault(fault);
        int finding = 0;
        for (int i = 0; i < patterns.length; i++) {
            Pattern it = presentOrNull(i);
            if (it != null && (it.faults & asSet) != 0) {
                finding++;
            }
        }
        return finding;
    }

    /** A cell of a pattern is masked: whether it was not. */
    public boolean mask(int pattern, int chain, int cell) throws IndexOutOfBoundsException {
        Pattern it = present(pattern);
        int place = existingPlace(chain, cell);
        boolean isNew = (it.masked & place) == 0;
        it.masked |= place;
        return isNew;
    }

    /** The signature of the patterns with numbers from one to another one (both of them too). */
    public long signature(int from, int to) throws IllegalArgumentException {
        if (from < 0 || to < from) {
            throw new IllegalArgumentException("from is below 0, or to below from");
        }
        int last = Math.min(to, patterns.length - 1);
        int state = 0;
        for (int i = from; i <= last; i++) {
            Pattern it = presentOrNull(i);
            if (it != null) {
                state = machine.takeIn(state, bitsOf(it) & ~it.masked);
            }
        }
        return state;
    }

    /** Whether the polynomial is primitive. */
    public boolean primitive() {
        return machine.hasLongestCycle();
    }

    /** Of all streams of n bits, in lowest terms: part 0 the aliases, 1 those that are not all 0. */
    public long alias(int n, int part) throws IllegalArgumentException {
        if (n < 1 || n > LONGEST_STREAM) {
            throw new IllegalArgumentException("a stream has 1 .. 60 bits");
        }
        if (part != 0 && part != 1) {
            throw new IllegalArgumentException("a part is 0 or 1");
        }
        // Of the last bits, as many as there are stages, the one with j behind it gets to stage j
        // and to none beyond: just one choice of these bits clears what all those before them left.
        int free = Math.max(0, n - machine.stages);
        long aliases = (1L << free) - 1;
        long streams = (1L << n) - 1;
        return (part == 0 ? aliases : streams) / greatestDivisor(streams, aliases);
    }

    /** The fill from now on: whether it is another one. */
    public boolean fill(int kind) throws IllegalArgumentException {
        if (kind < FILL_WITH_0 || kind > FILL_FROM_NEAREST) {
            throw new IllegalArgumentException("a fill is 0 .. 2");
        }
        boolean isOther = kind != fillKind;
        fillKind = kind;
        return isOther;
    }

    /** How much shifting a pattern in moves. */
    public long shifts(int pattern) throws IndexOutOfBoundsException {
        int bits = bitsOf(present(pattern));
        long moves = 0;
        for (int chain = 0; chain < shape.chains; chain++) {
            for (int cell = 0; cell + 1 < shape.cells; cell++) {
                boolean here = (bits & place(chain, cell)) != 0;
                boolean behind = (bits & place(chain, cell + 1)) != 0;
                if (here != behind) {
                    moves += cell + 1;
                }
            }
        }
        return moves;
    }

    /** How many: 0 patterns, 1 with a seed, 2 cells cared for, 3 the degree, 4 faults found. */
    public int count(int what) throws IndexOutOfBoundsException {
        switch (what) {
            case 0:
                return countPresent();
            case 1:
                return countSeeded();
            case 2:
                return countCared();
            case 3:
                return machine.stages;
            case 4:
                return Integer.bitCount(faultsOfAllBut(NONE));
            default:
                throw new IndexOutOfBoundsException("there is no such what");
        }
    }

    private Pattern presentOrNull(int number) {
        if (number < 0 || number >= patterns.length) {
            return null;
        }
        Pattern it = patterns[number];
        return it == null || it.gone ? null : it;
    }

    private Pattern present(int number) {
        Pattern it = presentOrNull(number);
        if (it == null) {
            throw new IndexOutOfBoundsException("there is no such pattern, or it is gone");
        }
        return it;
    }

    private int existingPlace(int chain, int cell) {
        if (chain < 0 || chain >= shape.chains || cell < 0 || cell >= shape.cells) {
            throw new IndexOutOfBoundsException("there is no such chain or cell");
        }
        return place(chain, cell);
    }

    private static int existingFault(int fault) {
        if (fault < 0 || fault >= MOST_FAULTS) {
            throw new IndexOutOfBoundsException("there is no such fault");
        }
        return 1 << fault;
    }

    /** A cell as a set of one: all cells that there can be fit into the bits of an int. */
    private static int place(int chain, int cell) {
        return 1 << (chain * MOST_CELLS + cell);
    }

    private void takeFromBehind(Pattern taker, int number) {
        for (int i = number + 1; i < patterns.length; i++) {
            Pattern other = presentOrNull(i);
            if (other != null && taker.goesWith(other)) {
                taker.take(other);
            }
        }
    }

    private void forgetSeeds() {
        for (int i = 0; i < patterns.length; i++) {
            Pattern it = presentOrNull(i);
            if (it != null) {
                it.seed = NONE;
            }
        }
    }

    private int faultsOfAllBut(int number) {
        int faults = 0;
        for (int i = 0; i < patterns.length; i++) {
            Pattern it = presentOrNull(i);
            if (it != null && i != number) {
                faults |= it.faults;
            }
        }
        return faults;
    }

    private int countPresent() {
        int present = 0;
        for (int i = 0; i < patterns.length; i++) {
            if (presentOrNull(i) != null) {
                present++;
            }
        }
        return present;
    }

    private int countSeeded() {
        int seeded = 0;
        for (int i = 0; i < patterns.length; i++) {
            Pattern it = presentOrNull(i);
            if (it != null && it.seed != NONE) {
                seeded++;
            }
        }
        return seeded;
    }

    private int countCared() {
        int cells = 0;
        for (int i = 0; i < patterns.length; i++) {
            Pattern it = presentOrNull(i);
            if (it != null) {
                cells += Integer.bitCount(it.cared);
            }
        }
        return cells;
    }

    /** The cells that have 1; what stands for cells that the chains do not have means nothing. */
    private int bitsOf(Pattern it) {
        if (it.seed != NONE) {
            return machine.make(it.seed);
        }
        if (fillKind == FILL_WITH_1) {
            return it.values | ~it.cared;
        }
        return fillKind == FILL_FROM_NEAREST ? filledFromNearest(it) : it.values;
    }

    private int filledFromNearest(Pattern it) {
        int bits = 0;
        for (int chain = 0; chain < shape.chains; chain++) {
            for (int cell = 0; cell < shape.cells; cell++) {
                if (nearestCare(it, chain, cell) == 1) {
                    bits |= place(chain, cell);
                }
            }
        }
        return bits;
    }

    private int nearestCare(Pattern it, int chain, int cell) {
        for (int k = cell; k >= 0; k--) {
            int v = it.careAt(place(chain, k));
            if (v != NONE) {
                return v;
            }
        }
        for (int k = cell + 1; k < shape.cells; k++) {
            int v = it.careAt(place(chain, k));
            if (v != NONE) {
                return v;
            }
        }
        return 0;
    }

    /** At least 1, so that it can be divided by. */
    private static long greatestDivisor(long a, long b) {
        long greater = a;
        long lesser = b;
        // Two rounds halve the numbers at least, so 128 are more than longs can need.
        for (int round = 0; round < 128 && lesser != 0; round++) {
            long rest = greater % lesser;
            greater = lesser;
            lesser = rest;
        }
        return Math.max(1L, greater);
    }

    /** How many chains there are, and cells in each. */
    private static final class Shape {
        private final int chains;
        private final int cells;

        private Shape(int chains, int cells) {
            this.chains = Math.min(MOST_CHAINS, Math.max(1, chains));
            this.cells = Math.min(MOST_CELLS, Math.max(1, cells));
        }
    }

    /** Sets of cells and faults are kept as the bits of an int. */
    private static final class Pattern {
        private int cared = 0;
        /** Those cared for as 1: never a cell that is not cared for. */
        private int values = 0;
        private int masked = 0;
        private int faults = 0;
        private int seed = NONE;
        private boolean gone = false;

        private int careAt(int place) {
            if ((cared & place) == 0) {
                return NONE;
            }
            return (values & place) != 0 ? 1 : 0;
        }

        private boolean setCare(int place, int v) {
            if (careAt(place) == v) {
                return false;
            }
            cared = v == NONE ? cared & ~place : cared | place;
            values = v == 1 ? values | place : values & ~place;
            seed = NONE;
            return true;
        }

        private boolean goesWith(Pattern other) {
            return (cared & other.cared & (values ^ other.values)) == 0;
        }

        private void take(Pattern other) {
            cared |= other.cared;
            values |= other.values;
            masked |= other.masked;
            faults |= other.faults;
            seed = NONE;
            other.gone = true;
        }
    }

    /** Its state is a number: bit k is what stage k has. */
    private static final class Machine {
        private final Shape shape;
        /** Made once and used again: the rows that leastSeed works with. */
        private final long[] rows;
        private int stages;
        private int taps;

        private Machine(Shape shape) {
            this.shape = shape;
            rows = new long[MOST_STAGES + MOST_CHAINS * MOST_CELLS];
            stages = FIRST_DEGREE;
            taps = 1 << (FIRST_DEGREE - 1);
        }

        private void restart(int degree) {
            stages = degree;
            taps = 1 << (degree - 1);
        }

        private boolean isTapped(int stage) {
            return (taps & (1 << stage)) != 0;
        }

        private void turnTap(int stage) {
            taps ^= 1 << stage;
        }

        private int step(int state) {
            int sum = Integer.bitCount(state & taps) & 1;
            return ((state << 1) | sum) & ((1 << stages) - 1);
        }

        private int stageAround(int number) {
            return stages < 1 ? 0 : number % stages;
        }

        /** The cells that get 1 from a seed. */
        private int make(int seed) {
            int bits = 0;
            int state = seed;
            for (int clock = 0; clock < shape.cells; clock++) {
                for (int chain = 0; chain < shape.chains; chain++) {
                    if ((state & (1 << stageAround(5 * chain + 1))) != 0) {
                        bits |= place(chain, shape.cells - 1 - clock);
                    }
                }
                state = step(state);
            }
            return bits;
        }

        /** The state after one more pattern of a signature has come in. */
        private int takeIn(int before, int bits) {
            int state = before;
            for (int clock = 0; clock < shape.cells; clock++) {
                state = step(state);
                for (int chain = 0; chain < shape.chains; chain++) {
                    if ((bits & place(chain, shape.cells - 1 - clock)) != 0) {
                        state ^= 1 << stageAround(chain);
                    }
                }
            }
            return state;
        }

        private boolean hasLongestCycle() {
            int longest = (1 << stages) - 1;
            int state = 1;
            for (int steps = 1; steps < longest; steps++) {
                state = step(state);
                if (state == 1) {
                    return false;
                }
            }
            return step(state) == 1;
        }

        /**
         * What a sum of seeds makes is the sum of what they make, so this adds up seeds of one bit.
         * A bit whose cells the lesser bits can make as well is left out: that gives the least seed.
         */
        private int leastSeed(int cared, int values) {
            for (int i = 0; i < rows.length; i++) {
                rows[i] = 0;
            }
            for (int stage = 0; stage < stages; stage++) {
                keep(reduced(row(make(1 << stage) & cared, 1 << stage)));
            }
            long rest = reduced(row(values, 0));
            return cellsOf(rest) != 0 ? NONE : (int) rest;
        }

        /** Cells above, the seed that makes them below: one addition then adds both. */
        private static long row(int cells, int seed) {
            return ((long) cells << MOST_STAGES) | seed;
        }

        private static long cellsOf(long row) {
            return row >> MOST_STAGES;
        }

        /** The row plus those kept rows that take away its cells, as far as that goes. */
        private long reduced(long row) {
            long rest = row;
            for (int i = rows.length - 1; i >= MOST_STAGES; i--) {
                if (((rest >> i) & 1) != 0) {
                    rest ^= rows[i];
                }
            }
            return rest;
        }

        private void keep(long row) {
            for (int i = rows.length - 1; i >= MOST_STAGES; i--) {
                if (((row >> i) & 1) != 0) {
                    rows[i] = row;
                    return;
                }
            }
        }
    }
}
