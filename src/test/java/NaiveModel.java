import java.math.BigInteger;
import java.util.ArrayList;
import java.util.List;

/** The document word by word, without regard to speed; answers are told as by Check.told. */
final class NaiveModel {
    static final class P {
        Integer[][] care;
        boolean[][] masked;
        boolean[] finds = new boolean[31];
        Integer seed = null;
        boolean gone = false;
    }

    final int chains;
    final int cells;
    final List<P> all = new ArrayList<>();
    boolean[] tapped;
    int fill = 0;

    NaiveModel(int chains, int length) {
        this.chains = chains < 1 ? 1 : chains > 4 ? 4 : chains;
        this.cells = length < 1 ? 1 : length > 8 ? 8 : length;
        degree(8);
    }

    private P get(int pattern) {
        if (pattern < 0 || pattern >= all.size() || all.get(pattern).gone) {
            throw new IndexOutOfBoundsException();
        }
        return all.get(pattern);
    }

    private void index(int i, int size) {
        if (i < 0 || i >= size) {
            throw new IndexOutOfBoundsException();
        }
    }

    private void allowed(boolean is) {
        if (!is) {
            throw new IllegalArgumentException();
        }
    }

    private List<P> left() {
        List<P> left = new ArrayList<>();
        for (P p : all) {
            if (!p.gone) {
                left.add(p);
            }
        }
        return left;
    }

    int pattern() {
        if (all.size() == 24) {
            throw new UnsupportedOperationException();
        }
        P p = new P();
        p.care = new Integer[chains][cells];
        p.masked = new boolean[chains][cells];
        all.add(p);
        return all.size() - 1;
    }

    boolean care(int pattern, int chain, int cell, int v) {
        P p = get(pattern);
        index(chain, chains);
        index(cell, cells);
        allowed(v == 0 || v == 1 || v == -1);
        Integer before = p.care[chain][cell];
        Integer now = v == -1 ? null : (Integer) v;
        p.care[chain][cell] = now;
        boolean other = before == null ? now != null : !before.equals(now);
        if (other) {
            p.seed = null;
        }
        return other;
    }

    private boolean clash(P a, P b) {
        for (int c = 0; c < chains; c++) {
            for (int k = 0; k < cells; k++) {
                if (a.care[c][k] != null && b.care[c][k] != null && !a.care[c][k].equals(b.care[c][k])) {
                    return true;
                }
            }
        }
        return false;
    }

    int join() {
        for (int i = 0; i < all.size(); i++) {
            for (int j = i + 1; j < all.size(); j++) {
                P a = all.get(i);
                P b = all.get(j);
                if (a.gone || b.gone || clash(a, b)) {
                    continue;
                }
                for (int c = 0; c < chains; c++) {
                    for (int k = 0; k < cells; k++) {
                        a.care[c][k] = b.care[c][k] != null ? b.care[c][k] : a.care[c][k];
                        a.masked[c][k] = a.masked[c][k] || b.masked[c][k];
                    }
                }
                for (int f = 0; f < 31; f++) {
                    a.finds[f] = a.finds[f] || b.finds[f];
                }
                a.seed = null;
                b.gone = true;
            }
        }
        return left().size();
    }

    void degree(int d) {
        allowed(d >= 1 && d <= 16);
        tapped = new boolean[d];
        tapped[d - 1] = true;
        for (P p : all) {
            p.seed = null;
        }
    }

    boolean machine(int k, boolean tap) {
        index(k, tapped.length);
        allowed(tap || k != tapped.length - 1);
        boolean other = tapped[k] != tap;
        tapped[k] = tap;
        if (other) {
            for (P p : all) {
                p.seed = null;
            }
        }
        return other;
    }

    private int[] step(int[] stages) {
        int[] next = new int[stages.length];
        for (int k = 0; k < stages.length; k++) {
            next[0] = (next[0] + (tapped[k] ? stages[k] : 0)) % 2;
            if (k > 0) {
                next[k] = stages[k - 1];
            }
        }
        return next;
    }

    private int[] stages(int number) {
        int[] stages = new int[tapped.length];
        for (int k = 0; k < stages.length; k++) {
            stages[k] = number >> k & 1;
        }
        return stages;
    }

    private long number(int[] stages) {
        long number = 0;
        for (int k = 0; k < stages.length; k++) {
            number += (long) stages[k] << k;
        }
        return number;
    }

    int[][] made(int seed) {
        int[][] bits = new int[chains][cells];
        int[] now = stages(seed);
        for (int t = 0; t < cells; t++) {
            for (int c = 0; c < chains; c++) {
                bits[c][cells - 1 - t] = now[(5 * c + 1) % now.length];
            }
            now = step(now);
        }
        return bits;
    }

    private boolean makes(int seed, P p) {
        int[][] bits = made(seed);
        for (int c = 0; c < chains; c++) {
            for (int k = 0; k < cells; k++) {
                if (p.care[c][k] != null && p.care[c][k] != bits[c][k]) {
                    return false;
                }
            }
        }
        return true;
    }

    int seed(int pattern) {
        P p = get(pattern);
        p.seed = null;
        for (int s = 0; s < 1 << tapped.length; s++) {
            if (makes(s, p)) {
                p.seed = s;
                return 0;
            }
        }
        return 1;
    }

    int seedOf(int pattern) {
        Integer seed = get(pattern).seed;
        return seed == null ? -1 : seed;
    }

    private int bitOf(P p, int chain, int cell) {
        if (p.seed != null) {
            return made(p.seed)[chain][cell];
        }
        Integer[] row = p.care[chain];
        if (row[cell] != null) {
            return row[cell];
        }
        if (fill < 2) {
            return fill;
        }
        int best = -1;
        for (int k = 0; k < cells; k++) {
            boolean before = k < cell;
            if (row[k] != null && (before || best < 0)) {
                best = k;
            }
        }
        return best < 0 ? 0 : row[best];
    }

    int bit(int pattern, int chain, int cell) {
        P p = get(pattern);
        index(chain, chains);
        index(cell, cells);
        return bitOf(p, chain, cell);
    }

    boolean found(int pattern, int fault) {
        P p = get(pattern);
        index(fault, 31);
        boolean before = p.finds[fault];
        p.finds[fault] = true;
        return !before;
    }

    int drop() {
        for (int i = all.size() - 1; i >= 0; i--) {
            P p = all.get(i);
            boolean needed = false;
            for (int f = 0; f < 31; f++) {
                needed = needed || p.finds[f] && finders(f) == 1;
            }
            if (!p.gone && !needed) {
                p.gone = true;
            }
        }
        return left().size();
    }

    int finders(int fault) {
        index(fault, 31);
        int n = 0;
        for (P p : left()) {
            n += p.finds[fault] ? 1 : 0;
        }
        return n;
    }

    boolean mask(int pattern, int chain, int cell) {
        P p = get(pattern);
        index(chain, chains);
        index(cell, cells);
        boolean before = p.masked[chain][cell];
        p.masked[chain][cell] = true;
        return !before;
    }

    long signature(int from, int to) {
        allowed(from >= 0 && to >= from);
        int[] now = new int[tapped.length];
        for (int i = 0; i < all.size(); i++) {
            P p = all.get(i);
            if (i < from || i > to || p.gone) {
                continue;
            }
            for (int t = 0; t < cells; t++) {
                now = step(now);
                for (int c = 0; c < chains; c++) {
                    int k = cells - 1 - t;
                    int b = p.masked[c][k] ? 0 : bitOf(p, c, k);
                    now[c % now.length] = (now[c % now.length] + b) % 2;
                }
            }
        }
        return number(now);
    }

    boolean primitive() {
        int[] now = stages(1);
        int steps = 0;
        do {
            now = step(now);
            steps++;
        } while (number(now) != 1);
        return steps == (1 << tapped.length) - 1;
    }

    /** Streams are tried one by one where that is fast enough; else lines of what each bit leaves. */
    private BigInteger aliases(int n) {
        if (n <= 10) {
            int aliases = 0;
            for (int stream = 1; stream < 1 << n; stream++) {
                aliases += left(n, stream) == 0 ? 1 : 0;
            }
            return BigInteger.valueOf(aliases);
        }
        List<Long> lines = new ArrayList<>();
        for (int i = 0; i < n; i++) {
            long line = left(n, 1L << i);
            for (long l : lines) {
                line = Math.min(line, line ^ l);
            }
            if (line != 0) {
                lines.add(line);
            }
        }
        return BigInteger.TWO.pow(n - lines.size()).subtract(BigInteger.ONE);
    }

    private long left(int n, long stream) {
        int[] now = new int[tapped.length];
        for (int i = 0; i < n; i++) {
            now = step(now);
            now[0] = (now[0] + (int) (stream >> i & 1)) % 2;
        }
        return number(now);
    }

    long alias(int n, int part) {
        allowed(n >= 1 && n <= 60 && (part == 0 || part == 1));
        BigInteger aliases = aliases(n);
        BigInteger streams = BigInteger.TWO.pow(n).subtract(BigInteger.ONE);
        BigInteger both = aliases.gcd(streams);
        return (part == 0 ? aliases : streams).divide(both).longValueExact();
    }

    boolean fill(int kind) {
        allowed(kind >= 0 && kind <= 2);
        boolean other = fill != kind;
        fill = kind;
        return other;
    }

    long shifts(int pattern) {
        P p = get(pattern);
        long moves = 0;
        for (int c = 0; c < chains; c++) {
            for (int k = 0; k + 1 < cells; k++) {
                moves += bitOf(p, c, k) != bitOf(p, c, k + 1) ? k + 1 : 0;
            }
        }
        return moves;
    }

    int count(int what) {
        index(what, 5);
        if (what == 0) {
            return left().size();
        }
        if (what == 3) {
            return tapped.length;
        }
        int n = 0;
        if (what == 4) {
            for (int f = 0; f < 31; f++) {
                n += finders(f) > 0 ? 1 : 0;
            }
            return n;
        }
        for (P p : left()) {
            if (what == 1) {
                n += p.seed != null ? 1 : 0;
                continue;
            }
            for (Integer[] row : p.care) {
                for (Integer v : row) {
                    n += v != null ? 1 : 0;
                }
            }
        }
        return n;
    }
}
