/** The boundary cases that promises 7 and 8 name: match and saved. */
public final class MatchEdgesTest {
    private static final Sentences sentences = new Sentences();
    private static final Checks checks = sentences.checks;
    private static final Asked asked = new Asked(checks);

    public static void main(String[] args) {
        match();
        matchRefuses();
        saved();
        savedOtherwise();
        sentences.done("MatchEdgesTest");
    }

    private static void match() {
        sentences.test("Promise 7", "A MATCH from a place on (the first place and the last one)",
                MatchEdgesTest::fromEachPlace);
        sentences.test("Promise 7", "by whichever machine (0 rows of threads, 1 marks, 2 a table, as far as these can)",
                MatchEdgesTest::whatATableCannot);
        sentences.test("Promise 7", "by whichever machine (0 rows of threads (198 of them), 1 marks, 2 a table ..)",
                MatchEdgesTest::manyAtOnce);
        sentences.test("Promise 7", "where it ends", MatchEdgesTest::whereItEnds);
        sentences.test("Promise 7", "NONE without one", MatchEdgesTest::noneWithoutOne);
    }

    private static void fromEachPlace() {
        StepMachines x = Laid.program(1, Laid.either(2, 0), Laid.bytes('a', 1));
        for (int how = 0; how < 3; how++) {
            asked.begins("the only place of an empty subject", x, how, false, 0, 0, 0);
            asked.begins("the only place of an empty subject", x, how, true, 0, 0, 0);
        }
        Laid.fill(x, 'a', 200);
        for (int how = 0; how < 3; how++) {
            for (int from : new int[] {0, 1, 199, 200}) {
                asked.begins("of a full subject", x, how, false, from, from, 200);
                asked.begins("of a full subject", x, how, true, from, from, 200);
            }
        }
    }

    /** Not one-way, 65 steps to look from, and anywhere: the answer is the same. */
    private static void whatATableCannot() {
        StepMachines x = Laid.program(1, Laid.either(2, 3), Laid.bytes('a', 0), Laid.bytes('a', 4),
                Laid.bytes('b', 0));
        Laid.put(x, "cab");
        checks.same("isOneWay()", x.isOneWay(), false);
        asked.begins("of two minds", x, 1, false, 1, 1, 2);
        asked.begins("of two minds, longest", x, 1, true, 1, 1, 3);
        asked.begins("of two minds, anywhere", x, 0, false, 0, 1, 2);
        asked.begins("of two minds, to the subject's end", x, 2, false, 1, 1, 3);
        StepMachines y = Laid.with(Laid.many('a'), "caab");
        checks.same("isOneWay()", y.isOneWay(), true);
        asked.begins("never of two minds, anywhere", y, 0, false, 0, 1, 3);
        asked.begins("never of two minds, anywhere, longest", y, 0, true, 0, 1, 3);
        for (int n = 63; n <= 65; n++) {
            int[][] chain = new int[n][];
            for (int k = 1; k <= n; k++) {
                chain[k - 1] = Laid.bytes('a', k - 1);
            }
            StepMachines z = Laid.program(n, chain);
            Laid.fill(z, 'a', 66);
            asked.begins("a chain of " + n, z, 1, false, 1, 1, 1 + n);
            asked.ends("a chain of " + n, z, 2, false, 66 - n, 66);
            asked.ends("a chain of " + n, z, 1, true, 67 - n, -1);
        }
    }

    private static void manyAtOnce() {
        for (int rows : new int[] {1, 2, 4, 20, 98}) {
            StepMachines x = Laid.manyAtOnce(rows);
            for (int from : new int[] {0, 1, 2, 3, 4, 100, 197, 198}) {
                asked.begins(rows + " rows, the last of many", x, 0, false, from, 198, 200);
                asked.begins(rows + " rows, the last of many", x, 0, true, from, 198, 200);
            }
            asked.begins(rows + " rows, the last of many", x, 2, false, 198, 198, 200);
            asked.begins(rows + " rows, behind it", x, 0, false, 199, -1, -1);
            checks.same(rows + " rows: over()", x.over(), 0);
        }
    }

    private static void whereItEnds() {
        StepMachines x = Laid.program(1, Laid.either(2, 0), Laid.bytes('a', 1));
        for (int length = 0; length <= 200; length += 8) {
            x.clear();
            Laid.fill(x, 'a', length);
            checks.same("ends at " + length, x.match(1, false, length % 3, 0), length);
            checks.same("saved(1)", x.saved(1), length);
        }
    }

    private static void noneWithoutOne() {
        StepMachines x = Laid.program(1, Laid.bytes('a', 0));
        for (int how = 0; how < 3; how++) {
            asked.begins("an empty subject", x, how, false, 0, -1, -1);
            asked.begins("an empty subject", x, how, true, 0, -1, -1);
        }
        Laid.fill(x, 'b', 200);
        for (int how = 0; how < 3; how++) {
            asked.begins("a full subject", x, how, false, 0, -1, -1);
            asked.begins("a full subject", x, how, true, 200, -1, -1);
        }
        x.lay(200);
        x.begin(199);
        asked.begins("NEVER", x, 0, true, 0, -1, -1);
    }

    private static void matchRefuses() {
        sentences.test("Promise 7", "IllegalArgumentException: no such how", MatchEdgesTest::noSuchHow);
        sentences.test("Promise 7", "IllegalArgumentException: no such .. machine", MatchEdgesTest::noSuchMachine);
        sentences.test("Promise 7", "no such place in the subject (0 .. its length)", MatchEdgesTest::noSuchPlace);
        sentences.test("Promise 7", "IllegalArgumentException: .. (nothing is changed)",
                MatchEdgesTest::aRefusedMatchChangesNothing);
    }

    private static void noSuchHow() {
        StepMachines x = new StepMachines();
        for (int machine = 0; machine < 3; machine++) {
            int m = machine;
            for (int how : new int[] {0, 1, 2}) {
                checks.taken("how " + how, () -> x.match(how, true, m, 0));
            }
            for (int how : new int[] {-1, 3, 4, 256, 65536, Laid.MAX, Laid.MIN}) {
                checks.argument("how " + how, () -> x.match(how, false, m, 0));
                checks.argument("how " + how + ", longest", () -> x.match(how, true, m, 0));
            }
        }
    }

    private static void noSuchMachine() {
        StepMachines x = new StepMachines();
        for (int how = 0; how < 3; how++) {
            int h = how;
            for (int machine : new int[] {0, 1, 2}) {
                checks.taken("machine " + machine, () -> x.match(h, true, machine, 0));
            }
            for (int machine : new int[] {-1, 3, 4, 256, 65536, Laid.MAX, Laid.MIN}) {
                checks.argument("machine " + machine, () -> x.match(h, false, machine, 0));
                checks.argument("machine " + machine + ", longest", () -> x.match(h, true, machine, 0));
            }
        }
    }

    private static void noSuchPlace() {
        StepMachines x = new StepMachines();
        for (int length : new int[] {0, 1, 8, 199, 200}) {
            x.clear();
            Laid.fill(x, 'a', length);
            for (int machine = 0; machine < 3; machine++) {
                int m = machine;
                checks.taken("place 0 of " + length, () -> x.match(1, false, m, 0));
                checks.taken("place " + length, () -> x.match(2, true, m, length));
                for (int from : new int[] {-1, length + 1, 201, 256, 65536, Laid.MAX, Laid.MIN}) {
                    checks.argument("place " + from + " of " + length, () -> x.match(0, false, m, from));
                    checks.argument("place " + from + " of " + length, () -> x.match(1, true, m, from));
                }
            }
        }
    }

    private static void aRefusedMatchChangesNothing() {
        StepMachines x = Laid.with(Laid.many('a'), "baab");
        int[][] refused = {{3, 0, 0}, {-1, 1, 0}, {0, 3, 0}, {1, -1, 1}, {2, 2, 5}, {1, 0, -1}, {7, 7, 7},
            {Laid.MIN, Laid.MIN, Laid.MIN}, {Laid.MAX, Laid.MAX, Laid.MAX}};
        for (int[] r : refused) {
            String call = "match(" + r[0] + ", .., " + r[1] + ", " + r[2] + ")";
            asked.begins("ahead of " + call, x, 0, false, 0, 1, 3);
            checks.argument(call, () -> x.match(r[0], false, r[1], r[2]));
            asked.begins("behind " + call, x, 1, true, 2, 2, 3);
            asked.length("behind " + call, x, 4);
        }
        checks.same("over()", x.over(), 0);
    }

    private static void saved() {
        sentences.test("Promise 8", "NONE for nothing (before any match)", MatchEdgesTest::beforeAnyMatch);
        sentences.test("Promise 8", "What the latest match() that was not refused has saved (behind one refused)",
                MatchEdgesTest::behindARefusedMatch);
        sentences.test("Promise 8", "NONE .. without a match", MatchEdgesTest::behindNoMatch);
        sentences.test("Promise 8", "at PLACE k, 2 .. 19", MatchEdgesTest::eachPlace);
        sentences.test("Promise 8", "NONE for nothing (at a PLACE that the way has not saved)",
                MatchEdgesTest::placesThatAreNotSaved);
        sentences.test("Promise 8", "NONE for nothing (no such k)", MatchEdgesTest::noSuchK);
        sentences.test("Promise 8", "where it begins (0), ends (1)", MatchEdgesTest::beginsAndEnds);
    }

    private static void allNone(String what, StepMachines x) {
        for (int k = 0; k < 20; k++) {
            checks.same(what + ": saved(" + k + ")", x.saved(k), -1);
        }
    }

    private static void beforeAnyMatch() {
        StepMachines x = new StepMachines();
        allNone("new", x);
        Laid.lay(x, 1, Laid.save(2, 2), Laid.bytes('a', 0));
        Laid.put(x, "a");
        allNone("laid", x);
        checks.same("ends()", x.ends(1, false, 0), 1);
        allNone("behind ends()", x);
        checks.argument("match() refused", () -> x.match(1, false, 3, 0));
        allNone("behind a match() that was refused", x);
        x.isOneWay();
        x.keep(64);
        allNone("behind isOneWay() and keep()", x);
    }

    private static StepMachines savesAll() {
        int[][] steps = new int[19][];
        for (int k = 2; k < 20; k++) {
            steps[k - 2] = Laid.save(k, k == 2 ? 0 : k - 2);
        }
        steps[18] = Laid.bytes('a', 18);
        return Laid.program(19, steps);
    }

    private static void behindARefusedMatch() {
        for (int machine = 0; machine < 3; machine++) {
            StepMachines x = Laid.with(savesAll(), "ba");
            int m = machine;
            checks.same("match()", x.match(0, false, machine, 0), 2);
            checks.argument("no such how", () -> x.match(3, false, m, 0));
            checks.argument("no such machine", () -> x.match(1, false, 3, 0));
            checks.argument("no such place", () -> x.match(1, true, m, 3));
            checks.argument("no such place", () -> x.match(1, true, m, -1));
            for (int k = 0; k < 20; k++) {
                checks.same("saved(" + k + ")", x.saved(k), k == 0 ? 1 : 2);
            }
            checks.same("no match", x.match(1, false, machine, 0), -1);
            checks.argument("no such how", () -> x.match(-1, false, m, 0));
            allNone("refused behind no match", x);
        }
    }

    private static void behindNoMatch() {
        for (int machine = 0; machine < 3; machine++) {
            StepMachines x = Laid.with(savesAll(), "ab");
            checks.same("match()", x.match(1, false, machine, 0), 1);
            checks.same("saved(19)", x.saved(19), 1);
            for (int how = 0; how < 3; how++) {
                checks.same("no match", x.match(how, how == 1, machine, 1), -1);
                allNone("behind how " + how, x);
                checks.same("match()", x.match(1, true, machine, 0), 1);
            }
            x.lay(2);
            x.step(1, Laid.SAVE, 2, 0, 0);
            x.begin(1);
            checks.same("to the subject's end", x.match(2, false, machine, 1), -1);
            allNone("a way that was saved on, but is none", x);
        }
    }

    private static void eachPlace() {
        StepMachines x = Laid.with(savesAll(), "bba");
        for (int machine = 0; machine < 3; machine++) {
            x.match(2, true, machine, 2);
            for (int k = 2; k <= 19; k++) {
                checks.same("saved(" + k + ")", x.saved(k), 3);
            }
        }
    }

    private static void placesThatAreNotSaved() {
        StepMachines x = Laid.with(Laid.program(1, Laid.save(2, 2), Laid.save(19, 0)), "a");
        for (int machine = 0; machine < 3; machine++) {
            x.match(1, false, machine, 0);
            checks.same("saved(2), at place 0", x.saved(2), 0);
            for (int k = 3; k <= 18; k++) {
                checks.same("saved(" + k + ")", x.saved(k), -1);
            }
            checks.same("saved(19), at place 0", x.saved(19), 0);
        }
        x.step(1, Laid.SAVE, 3, 0, 0);
        x.match(1, false, 0, 1);
        checks.same("saved(3)", x.saved(3), 1);
        checks.same("saved(2) of the match before", x.saved(2), -1);
        checks.same("saved(19) of the match before", x.saved(19), -1);
    }

    private static void noSuchK() {
        StepMachines x = Laid.with(savesAll(), "a");
        checks.same("match()", x.match(1, false, 0, 0), 1);
        for (int k : new int[] {-1, 20, 21, -2, 200, 256, 65536 + 2, Laid.MAX, Laid.MIN, Laid.MIN + 2}) {
            checks.same("saved(" + k + ")", x.saved(k), -1);
        }
    }

    private static void beginsAndEnds() {
        StepMachines x = Laid.program(1, Laid.either(2, 0), Laid.bytes('a', 1));
        asked.begins("0 and 0 in an empty subject", x, 1, false, 0, 0, 0);
        Laid.fill(x, 'a', 200);
        for (int machine = 0; machine < 3; machine++) {
            for (int from : new int[] {0, 1, 199, 200}) {
                x.match(from % 3, false, machine, from);
                checks.same("saved(0) from " + from, x.saved(0), from);
                checks.same("saved(1) from " + from, x.saved(1), 200);
            }
        }
    }

    private static void savedOtherwise() {
        sentences.test("Promise 8", "What the latest match() .. has saved (other calls leave it)",
                MatchEdgesTest::otherCallsLeaveIt);
    }

    private static void isSaved(String what, StepMachines x) {
        checks.same(what + ": saved(0)", x.saved(0), 1);
        checks.same(what + ": saved(1)", x.saved(1), 2);
        checks.same(what + ": saved(19)", x.saved(19), 2);
    }

    private static void otherCallsLeaveIt() {
        StepMachines x = Laid.with(savesAll(), "ba");
        checks.same("match()", x.match(0, false, 1, 0), 2);
        isSaved("at once", x);
        checks.same("ends() at another place", x.ends(1, true, 0), -1);
        isSaved("behind ends()", x);
        checks.argument("ends() refused", () -> x.ends(0, true, 0));
        isSaved("behind ends() that was refused", x);
        x.put(0L, 8);
        isSaved("behind put()", x);
        x.clear();
        isSaved("behind clear()", x);
        x.keep(4);
        isSaved("behind keep()", x);
        checks.argument("keep(3)", () -> x.keep(3));
        isSaved("behind keep() that was refused", x);
        x.isOneWay();
        x.over();
        isSaved("behind isOneWay() and over()", x);
        x.begin(0);
        isSaved("behind begin()", x);
        x.step(1, Laid.NEVER, 0, 0, 0);
        isSaved("behind step()", x);
        x.lay(1);
        isSaved("behind lay()", x);
    }
}
