/** One question put to all that answers it: each machine, and the states where they may be asked. */
final class Asked {
    static final int MACHINES = 3;

    private final Checks checks;

    Asked(Checks checks) {
        this.checks = checks;
    }

    /** Four calls at most, or seven with where it begins. */
    void ends(String what, StepMachines x, int how, boolean longest, int from, int due) {
        String call = what + ": (" + how + ", " + longest + ", " + from + ")";
        for (int machine = 0; machine < MACHINES; machine++) {
            checks.same(call + " by machine " + machine, x.match(how, longest, machine, from), due);
        }
        if (how != 0 || !longest) {
            checks.same(call + " by states", x.ends(how, longest, from), due);
        }
    }

    void begins(String what, StepMachines x, int how, boolean longest, int from, int beginning, int end) {
        String call = what + ": (" + how + ", " + longest + ", " + from + ")";
        for (int machine = 0; machine < MACHINES; machine++) {
            checks.same(call + " by machine " + machine, x.match(how, longest, machine, from), end);
            checks.same(call + " begins, by machine " + machine, x.saved(0), beginning);
        }
        if (how != 0 || !longest) {
            checks.same(call + " by states", x.ends(how, longest, from), end);
        }
    }

    /** What each machine saves at one PLACE. */
    void saves(String what, StepMachines x, int how, boolean longest, int from, int k, int due) {
        for (int machine = 0; machine < MACHINES; machine++) {
            x.match(how, longest, machine, from);
            checks.same(what + ": saved(" + k + ") by machine " + machine, x.saved(k), due);
        }
    }

    /** That a place is refused by all. */
    void noPlace(String what, StepMachines x, int from) {
        for (int how = 0; how < 3; how++) {
            int h = how;
            for (int machine = 0; machine < MACHINES; machine++) {
                int m = machine;
                checks.argument(what + ": match(" + how + ", .., " + machine + ", " + from + ")",
                        () -> x.match(h, false, m, from));
            }
            checks.argument(what + ": ends(" + how + ", .., " + from + ")", () -> x.ends(h, false, from));
        }
    }

    /** The subject's length: it is a place, and one more is none. */
    void length(String what, StepMachines x, int due) {
        checks.taken(what + ": place " + due, () -> x.match(1, false, 0, due));
        checks.argument(what + ": place " + (due + 1), () -> x.match(1, false, 0, due + 1));
    }

    /** The subject byte by byte: two calls for each and three more; another program is laid for it. */
    void subject(String what, StepMachines x, int... due) {
        x.lay(2);
        x.begin(1);
        for (int i = 0; i < due.length; i++) {
            x.step(1, Laid.BYTES, Laid.one(due[i]), 0, 0);
            checks.same(what + ": byte " + due[i] + " at " + i, x.match(1, false, 0, i), i + 1);
        }
        length(what, x, due.length);
    }

    /** How many steps the program has: another beginning is set for it. */
    void steps(String what, StepMachines x, int due) {
        checks.taken(what + ": begin(" + (due - 1) + ")", () -> x.begin(due - 1));
        checks.index(what + ": begin(" + due + ")", () -> x.begin(due));
    }
}
