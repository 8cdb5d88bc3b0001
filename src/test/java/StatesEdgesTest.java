/** The boundary cases that promises 9 and 10 name: ends and keep. */
public final class StatesEdgesTest {
    private static final Sentences sentences = new Sentences();
    private static final Checks checks = sentences.checks;
    private static final Asked asked = new Asked(checks);

    public static void main(String[] args) {
        ends();
        keep();
        sentences.done("StatesEdgesTest");
    }

    private static void ends() {
        sentences.test("Promise 9", "Where match() would end (an empty subject)", StatesEdgesTest::ofAnEmptySubject);
        sentences.test("Promise 9", "Where match() would end (a full subject)", StatesEdgesTest::ofAFullSubject);
        sentences.test("Promise 9", "Where match() would end (NONE)", StatesEdgesTest::whereThereIsNone);
        sentences.test("Promise 9", "Where match() would end (what was changed since)",
                StatesEdgesTest::ofWhatWasChanged);
        sentences.test("Promise 9", "by states (the byte before the place)", StatesEdgesTest::theByteBefore);
        sentences.test("Promise 9", "by states (such as are much alike)", StatesEdgesTest::statesMuchAlike);
        sentences.test("Promise 9", "by states (of up to 196 steps, come to again from another place)",
                StatesEdgesTest::largeStates);
        sentences.test("Promise 9", "IllegalArgumentException: as for match() (no such how)",
                StatesEdgesTest::noSuchHow);
        sentences.test("Promise 9", "IllegalArgumentException: as for match() (no such place)",
                StatesEdgesTest::noSuchPlace);
        sentences.test("Promise 9", "longest with how 0", StatesEdgesTest::longestWithHow0);
        sentences.test("Promise 9", "IllegalArgumentException: .. (nothing is changed)",
                StatesEdgesTest::aRefusedEndsChangesNothing);
    }

    private static void four(String what, StepMachines x, int from, int first, int here, int longest, int whole) {
        checks.same(what + ": ends(0, false, " + from + ")", x.ends(0, false, from), first);
        checks.same(what + ": ends(1, false, " + from + ")", x.ends(1, false, from), here);
        checks.same(what + ": ends(1, true, " + from + ")", x.ends(1, true, from), longest);
        checks.same(what + ": ends(2, false, " + from + ")", x.ends(2, false, from), whole);
        checks.same(what + ": ends(2, true, " + from + ")", x.ends(2, true, from), whole);
    }

    private static void ofAnEmptySubject() {
        four("the END alone", new StepMachines(), 0, 0, 0, 0, 0);
        four("one a or more", Laid.many('a'), 0, -1, -1, -1, -1);
        four("none before and none behind", Laid.program(1, Laid.so(0, 2), Laid.so(1, 0)), 0, 0, 0, 0, 0);
        four("a WORD byte on one side", Laid.program(1, Laid.so(4, 0)), 0, -1, -1, -1, -1);
    }

    private static void ofAFullSubject() {
        StepMachines x = Laid.program(1, Laid.bytes('a', 2), Laid.either(0, 1));
        Laid.fill(x, 'a', 200);
        four("from 0", x, 0, 1, 1, 200, 200);
        four("from 199", x, 199, 200, 200, 200, 200);
        four("from 200", x, 200, -1, -1, -1, -1);
        x.step(2, Laid.EITHER, 0, 1, 0);
        four("the most first, from 0", x, 0, 200, 200, 200, 200);
        x.lay(1);
        four("the END alone, from 0", x, 0, 0, 0, 0, -1);
        four("the END alone, from 200", x, 200, 200, 200, 200, 200);
        checks.same("over()", x.over(), 0);
    }

    private static void whereThereIsNone() {
        StepMachines x = Laid.with(Laid.many('a'), "bab");
        four("not here, but behind", x, 0, 2, -1, -1, -1);
        four("not to the subject's end", x, 1, 2, 2, 2, -1);
        four("not any more", x, 2, -1, -1, -1, -1);
        x.lay(200);
        x.begin(199);
        four("NEVER", x, 0, -1, -1, -1, -1);
    }

    private static void ofWhatWasChanged() {
        StepMachines x = Laid.with(Laid.many('a'), "aab");
        four("one a or more", x, 0, 2, 2, 2, -1);
        x.step(1, Laid.BYTES, Laid.range('a', 'b'), 2, 0);
        four("a step is another", x, 0, 3, 3, 3, 3);
        x.begin(2);
        four("the beginning is another", x, 3, 3, 3, 3, 3);
        x.put('a', 1);
        four("the subject is longer", x, 3, 4, 4, 4, 4);
        x.clear();
        four("the subject is empty", x, 0, 0, 0, 0, 0);
        Laid.lay(x, 1, Laid.bytes('a', 0));
        four("the program is another", x, 0, -1, -1, -1, -1);
    }

    /** A state from one byte before is not taken for another: all sorts of bytes, one behind the other. */
    private static void theByteBefore() {
        for (int what = 0; what < 6; what++) {
            StepMachines x = Laid.program(1, Laid.so(what, 0));
            Laid.put(x, "\n\na a_ \n");
            for (int from = 0; from <= 8; from++) {
                int due = x.match(1, false, 1, from);
                checks.same("assertion " + what + " at " + from, x.ends(1, false, from), due);
                checks.same("assertion " + what + " at " + from + ", longest", x.ends(1, true, from), due);
                checks.same("assertion " + what + " from " + from + " on", x.ends(0, false, from),
                        x.match(0, false, 1, from));
            }
        }
    }

    /**
     * One state has 31 more for one of its steps and one less for what is ahead of it, another step or the sort of
     * the byte before: a sum over them that multiplies by 31 does not tell them apart.
     */
    private static void statesMuchAlike() {
        StepMachines x = new StepMachines();
        x.lay(100);
        x.step(1, Laid.EITHER, 0, 2, 3);
        x.step(2, Laid.BYTES, Laid.one('a'), 60, 0);
        x.step(3, Laid.BYTES, Laid.one(' '), 29, 0);
        x.step(60, Laid.BYTES, Laid.one('p'), 0, 0);
        x.step(29, Laid.BYTES, Laid.one('q'), 0, 0);
        x.begin(1);
        alike(x, "ap", 2, " q", 2, " p", -1, "aq", -1);
        x.step(2, Laid.EITHER, 0, 4, 5);
        x.step(3, Laid.EITHER, 0, 6, 7);
        x.step(4, Laid.BYTES, Laid.one('a'), 60, 0);
        x.step(5, Laid.BYTES, Laid.one('a'), 80, 0);
        x.step(6, Laid.BYTES, Laid.one('b'), 61, 0);
        x.step(7, Laid.BYTES, Laid.one('b'), 49, 0);
        x.step(61, Laid.BYTES, Laid.one('q'), 0, 0);
        alike(x, "ap", 2, "bq", 2, "bp", -1, "aq", -1);
    }

    /** The z is a new byte for the state that it comes to from each other place: its last step must still be there. */
    private static void largeStates() {
        for (int rows : new int[] {1, 2, 4, 20, 98}) {
            for (int states : new int[] {4, 32, 64}) {
                String what = rows + " rows, keep(" + states + "): ";
                StepMachines x = Laid.manyAtOnce(rows);
                x.keep(states);
                for (int from = 0; from < 199; from++) {
                    checks.same(what + "ends(0, false, " + from + ")", x.ends(0, false, from), 200);
                }
                checks.same(what + "ends(0, false, 199)", x.ends(0, false, 199), -1);
                checks.same(what + "over()", x.over(), 0);
            }
        }
    }

    private static void alike(StepMachines x, Object... due) {
        for (int turn = 0; turn < 2; turn++) {
            for (int i = 0; i < due.length; i += 2) {
                x.clear();
                Laid.put(x, (String) due[i]);
                four("over " + due[i], x, 0, (Integer) due[i + 1], (Integer) due[i + 1], (Integer) due[i + 1],
                        (Integer) due[i + 1]);
            }
        }
    }

    private static void noSuchHow() {
        StepMachines x = Laid.with(Laid.many('a'), "a");
        for (int how : new int[] {0, 1, 2}) {
            checks.taken("how " + how, () -> x.ends(how, false, 0));
        }
        for (int how : new int[] {-1, 3, 4, 256, 65536, Laid.MAX, Laid.MIN}) {
            checks.argument("how " + how, () -> x.ends(how, false, 0));
            checks.argument("how " + how + ", longest", () -> x.ends(how, true, 0));
        }
    }

    private static void noSuchPlace() {
        StepMachines x = new StepMachines();
        for (int length : new int[] {0, 1, 8, 199, 200}) {
            x.clear();
            Laid.fill(x, 'a', length);
            for (int how = 0; how < 3; how++) {
                int h = how;
                checks.taken("place 0 of " + length, () -> x.ends(h, h > 0, 0));
                checks.taken("place " + length, () -> x.ends(h, false, length));
                for (int from : new int[] {-1, length + 1, 201, 256, 65536, Laid.MAX, Laid.MIN}) {
                    checks.argument("place " + from + " of " + length, () -> x.ends(h, false, from));
                    checks.argument("place " + from + " of " + length, () -> x.ends(h, true, from));
                }
            }
        }
    }

    private static void longestWithHow0() {
        StepMachines x = Laid.with(Laid.many('a'), "baa");
        for (int from = 0; from <= 3; from++) {
            int f = from;
            checks.argument("from " + from, () -> x.ends(0, true, f));
            checks.taken("not longest, from " + from, () -> x.ends(0, false, f));
            checks.taken("how 1, from " + from, () -> x.ends(1, true, f));
            checks.taken("how 2, from " + from, () -> x.ends(2, true, f));
        }
        checks.same("match() is not refused so", x.match(0, true, 0, 0), 3);
        checks.argument("an empty subject", () -> new StepMachines().ends(0, true, 0));
    }

    private static void aRefusedEndsChangesNothing() {
        StepMachines x = Laid.with(Laid.many('a'), "baa");
        checks.same("match()", x.match(0, false, 0, 0), 3);
        int[][] refused = {{3, 0}, {-1, 0}, {0, 4}, {1, -1}, {2, Laid.MAX}, {Laid.MIN, Laid.MIN}};
        for (int[] r : refused) {
            checks.argument("ends(" + r[0] + ", .., " + r[1] + ")", () -> x.ends(r[0], false, r[1]));
            checks.argument("ends(0, true, 1)", () -> x.ends(0, true, 1));
            checks.same("saved(0)", x.saved(0), 1);
            checks.same("saved(1)", x.saved(1), 3);
            four("behind ends(" + r[0] + ", .., " + r[1] + ")", x, 1, 3, 3, 3, 3);
        }
        checks.same("over()", x.over(), 0);
    }

    private static void keep() {
        sentences.test("Promise 10", "At most so many states are kept (4 .. 64", StatesEdgesTest::fourToSixtyFour);
        sentences.test("Promise 10", "at first 32", StatesEdgesTest::atFirst32);
        sentences.test("Promise 10", "nothing that is told hangs on it", StatesEdgesTest::nothingHangsOnIt);
        sentences.test("Promise 10", "IllegalArgumentException: another number.", StatesEdgesTest::anotherNumber);
        sentences.test("Promise 10", "IllegalArgumentException: another number. (nothing is changed)",
                StatesEdgesTest::aRefusedKeepChangesNothing);
    }

    /** a, then 6 of a and b, then c, from anywhere: each 7 bytes before are another state, more than 64 in all. */
    private static StepMachines manyStates() {
        StepMachines x = Laid.program(8, Laid.bytes('c', 0), Laid.bytes('a', 'b', 1), Laid.bytes('a', 'b', 2),
                Laid.bytes('a', 'b', 3), Laid.bytes('a', 'b', 4), Laid.bytes('a', 'b', 5), Laid.bytes('a', 'b', 6),
                Laid.bytes('a', 7));
        long noise = 1;
        for (int i = 0; i < 190; i++) {
            noise = noise * 69069 % 4294967291L;
            x.put(noise % 2 == 0 ? 'a' : 'b', 1);
        }
        Laid.put(x, "aabbabbcba");
        return x;
    }

    private static void isTold(String what, StepMachines x) {
        checks.same(what + ": anywhere", x.ends(0, false, 0), 198);
        checks.same(what + ": anywhere behind it", x.ends(0, false, 191), -1);
        checks.same(what + ": here", x.ends(1, false, 190), 198);
        checks.same(what + ": longest", x.ends(1, true, 190), 198);
        checks.same(what + ": to the subject's end", x.ends(2, false, 190), -1);
        checks.same(what + ": anywhere once more", x.ends(0, false, 0), 198);
    }

    private static void fourToSixtyFour() {
        for (int states = 4; states <= 64; states++) {
            StepMachines x = manyStates();
            int s = states;
            checks.taken("keep(" + states + ")", () -> x.keep(s));
            isTold("keep(" + states + ")", x);
        }
    }

    private static void atFirst32() {
        StepMachines x = manyStates();
        isTold("no keep() yet", x);
        checks.taken("keep(32)", () -> x.keep(32));
        isTold("keep(32)", x);
        checks.same("the same by marks", x.match(0, false, 1, 0), 198);
    }

    private static void nothingHangsOnIt() {
        StepMachines x = manyStates();
        checks.same("match()", x.match(0, false, 0, 0), 198);
        for (int states : new int[] {64, 4, 63, 5, 4, 64, 33, 31}) {
            x.keep(states);
            isTold("fewer and more, keep(" + states + ")", x);
            x.keep(states);
            isTold("again, keep(" + states + ")", x);
        }
        checks.same("saved(0)", x.saved(0), 190);
        checks.same("saved(1)", x.saved(1), 198);
        checks.same("over()", x.over(), 0);
        checks.same("isOneWay()", x.isOneWay(), true);
    }

    private static void anotherNumber() {
        StepMachines x = new StepMachines();
        checks.taken("keep(4)", () -> x.keep(4));
        checks.taken("keep(64)", () -> x.keep(64));
        for (int states : new int[] {3, 65, 0, -1, -4, 128, 256 + 4, 65536 + 64, Laid.MAX, Laid.MIN, Laid.MIN + 4}) {
            checks.argument("keep(" + states + ")", () -> x.keep(states));
        }
    }

    private static void aRefusedKeepChangesNothing() {
        StepMachines x = manyStates();
        checks.same("match()", x.match(0, false, 2, 0), 198);
        for (int states : new int[] {3, 65, 0, Laid.MAX, Laid.MIN}) {
            isTold("ahead of keep(" + states + ")", x);
            checks.argument("keep(" + states + ")", () -> x.keep(states));
            isTold("behind keep(" + states + ")", x);
        }
        checks.same("saved(1)", x.saved(1), 198);
        asked.length("the subject", x, 200);
        asked.steps("the program", x, 9);
    }
}
