/** What the tests share: it counts answers that are not the ones that are due, and ends a test. */
final class Check {
    /** A call whose answer, or whose exception, is looked at. */
    interface Call {
        Object answer();
    }

    private int wrong = 0;

    void due(String call, Object want, Call made) {
        String got = told(made);
        if (!got.equals(String.valueOf(want))) {
            wrong++;
            System.out.println(call + " answered " + got + ", due is " + want);
        }
    }

    void noIndex(String call, Call made) {
        due(call, "throws.IndexOutOfBoundsException", made);
    }

    void noArgument(String call, Call made) {
        due(call, "throws.IllegalArgumentException", made);
    }

    void end() {
        System.out.println(wrong == 0 ? "all answers are as due" : wrong + " answers are not as due");
        if (wrong != 0) {
            System.exit(1);
        }
    }

    /** A new object with so many patterns. */
    static PackSeeds with(int chains, int cells, int patterns) {
        PackSeeds x = new PackSeeds(chains, cells);
        for (int i = 0; i < patterns; i++) {
            x.pattern();
        }
        return x;
    }

    /** Bits of a pattern, chain by chain, the cell 0 first. */
    static String bits(PackSeeds x, int pattern, int chains, int cells) {
        StringBuilder text = new StringBuilder();
        for (int c = 0; c < chains; c++) {
            text.append(c == 0 ? "" : " ");
            for (int k = 0; k < cells; k++) {
                text.append(x.bit(pattern, c, k));
            }
        }
        return text.toString();
    }

    /** As a call with an answer, so that it can be looked at like the others. */
    static Object degree(PackSeeds x, int d) {
        x.degree(d);
        return "done";
    }

    /** The exception's own class, so that one below the class that is due is seen as wrong. */
    static String told(Call made) {
        try {
            return String.valueOf(made.answer());
        } catch (RuntimeException e) {
            return "throws." + e.getClass().getSimpleName();
        }
    }
}
