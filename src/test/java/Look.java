/**
 * All that an object shows, as one text, so that it can be compared with another one's. An object
 * cannot be used any more after it: masks, faults, taps and what is cared for are seen only by the
 * answers of calls that change them.
 */
final class Look {
    private final PackSeeds x;
    private final int chains;
    private final int cells;
    private final StringBuilder text = new StringBuilder();

    private Look(PackSeeds x, int chains, int cells) {
        this.x = x;
        this.chains = chains;
        this.cells = cells;
    }

    /** It makes 25 calls, and for each of the patterns 34 and 4 for each of its cells. */
    static String at(PackSeeds x, int chains, int cells, int patterns) {
        Look look = new Look(x, chains, cells);
        look.counts();
        for (int p = 0; p < patterns; p++) {
            look.asked(p);
        }
        for (int p = 0; p < patterns; p++) {
            look.changed(p);
        }
        look.machine();
        look.say("pattern", x::pattern);
        return look.text.toString();
    }

    private void say(String call, Check.Call made) {
        text.append(call).append(' ').append(Check.told(made)).append('\n');
    }

    private void counts() {
        for (int what = 0; what < 5; what++) {
            int w = what;
            say("count " + w, () -> x.count(w));
        }
        say("signature of all", () -> x.signature(0, 23));
        say("primitive", x::primitive);
    }

    private void asked(int p) {
        say("seedOf " + p, () -> x.seedOf(p));
        say("shifts " + p, () -> x.shifts(p));
        say("signature " + p, () -> x.signature(p, p));
        say("bits " + p, () -> Check.bits(x, p, chains, cells));
    }

    private void changed(int p) {
        for (int chain = 0; chain < chains; chain++) {
            for (int cell = 0; cell < cells; cell++) {
                int c = chain;
                int k = cell;
                say("mask " + p + " " + c + " " + k, () -> x.mask(p, c, k));
                say("care " + p + " " + c + " " + k, () -> x.care(p, c, k, 0) + " " + x.care(p, c, k, PackSeeds.NONE));
            }
        }
        for (int fault = 0; fault < 31; fault++) {
            int f = fault;
            say("found " + p + " " + f, () -> x.found(p, f));
        }
    }

    /** Whether the fill was 1 or 2, the bits have told by now. */
    private void machine() {
        say("fill 0", () -> x.fill(0));
        for (int stage = 0; stage < 16; stage++) {
            int k = stage;
            say("machine " + k, () -> x.machine(k, true));
        }
    }
}
