/** All promises: long runs of calls, each answered by the class as by the document's naive model. */
public final class ModelTest {
    private static final int[] FAR = {Integer.MIN_VALUE, Integer.MAX_VALUE, -1, -2, 24, 31, 32, 64, 256};

    private final Check check;
    private long luck;
    private PackSeeds x;
    private NaiveModel y;
    private String run;

    private ModelTest(Check check, long luck) {
        this.check = check;
        this.luck = luck;
    }

    public static void main(String[] args) {
        Check check = new Check();
        for (int i = 1; i <= 150; i++) {
            new ModelTest(check, i).goOn(i);
        }
        check.end();
    }

    /** A fixed row of numbers, so that a run that fails does so each time. */
    private int below(int n) {
        luck = luck * 6364136223846793005L + 1442695040888963407L;
        return (int) ((luck >>> 33) % n);
    }

    /** A number below n, now and then one that is not. */
    private int about(int n) {
        int kind = below(40);
        if (kind == 0) {
            return FAR[below(FAR.length)];
        }
        return kind == 1 ? n : below(n);
    }

    private void goOn(int number) {
        int chains = about(5);
        int cells = about(9);
        x = new PackSeeds(chains, cells);
        y = new NaiveModel(chains, cells);
        int rareness = 1 + below(12);
        for (int i = 0; i < 512; i++) {
            run = "run " + number + " (" + chains + " x " + cells + "), call " + i + ", ";
            call(rareness);
        }
    }

    private void call(int rareness) {
        int kind = below(40);
        if (kind < 14) {
            change(kind);
        } else if (kind < 17) {
            machine(rareness);
        } else if (kind < 19) {
            pack(rareness);
        } else {
            ask(kind);
        }
    }

    private int somePattern() {
        return about(Math.max(1, y.all.size()));
    }

    private void change(int kind) {
        int p = somePattern();
        int c = about(y.chains);
        int k = about(y.cells);
        int v = about(3) - 1;
        int f = about(31);
        if (kind < 2) {
            due("pattern()", () -> y.pattern(), () -> x.pattern());
        } else if (kind < 10) {
            due("care(" + p + ", " + c + ", " + k + ", " + v + ")", () -> y.care(p, c, k, v), () -> x.care(p, c, k, v));
        } else if (kind < 12) {
            due("found(" + p + ", " + f + ")", () -> y.found(p, f), () -> x.found(p, f));
        } else {
            due("mask(" + p + ", " + c + ", " + k + ")", () -> y.mask(p, c, k), () -> x.mask(p, c, k));
        }
    }

    private void machine(int rareness) {
        int d = about(17);
        int k = about(y.tapped.length);
        int kind = about(3);
        boolean tap = below(2) == 0;
        if (below(rareness) == 0) {
            due("machine(" + k + ", " + tap + ")", () -> y.machine(k, tap), () -> x.machine(k, tap));
        }
        if (below(rareness) == 0) {
            due("degree(" + d + ")", () -> degree(y, d), () -> degree(x, d));
        }
        due("fill(" + kind + ")", () -> y.fill(kind), () -> x.fill(kind));
    }

    private static String degree(NaiveModel y, int d) {
        y.degree(d);
        return "done";
    }

    private static String degree(PackSeeds x, int d) {
        x.degree(d);
        return "done";
    }

    private void pack(int rareness) {
        if (below(rareness * 3) != 0) {
            return;
        }
        if (below(2) == 0) {
            due("join()", () -> y.join(), () -> x.join());
        } else {
            due("drop()", () -> y.drop(), () -> x.drop());
        }
    }

    private void ask(int kind) {
        int p = somePattern();
        int c = about(y.chains);
        int k = about(y.cells);
        int f = about(31);
        int to = about(25);
        int n = about(61);
        int part = about(2);
        int what = about(5);
        if (kind < 24) {
            due("seed(" + p + ")", () -> y.seed(p), () -> x.seed(p));
            due("seedOf(" + p + ")", () -> y.seedOf(p), () -> x.seedOf(p));
        } else if (kind < 26) {
            due("bit(" + p + ", " + c + ", " + k + ")", () -> y.bit(p, c, k), () -> x.bit(p, c, k));
        } else if (kind < 28) {
            due("finders(" + f + ")", () -> y.finders(f), () -> x.finders(f));
        } else if (kind < 31) {
            due("signature(" + p + ", " + to + ")", () -> y.signature(p, to), () -> x.signature(p, to));
        } else if (kind < 33) {
            due("alias(" + n + ", " + part + ")", () -> y.alias(n, part), () -> x.alias(n, part));
        } else if (kind < 36) {
            due("shifts(" + p + ")", () -> y.shifts(p), () -> x.shifts(p));
        } else if (kind < 37) {
            due("primitive()", () -> y.primitive(), () -> x.primitive());
        } else {
            due("count(" + what + ")", () -> y.count(what), () -> x.count(what));
        }
    }

    private void due(String call, Check.Call want, Check.Call got) {
        check.due(run + call, Check.told(want), got);
    }
}
