/** The boundary cases that promise 11 names: isOneWay. */
public final class OneWayEdgesTest {
    private static final Sentences sentences = new Sentences();
    private static final Checks checks = sentences.checks;
    private static final Asked asked = new Asked(checks);

    public static void main(String[] args) {
        where();
        twice();
        bytes();
        sentences.done("OneWayEdgesTest");
    }

    private static void is(String what, boolean due, int beginning, int[]... steps) {
        checks.same(what, Laid.program(beginning, steps).isOneWay(), due);
    }

    private static void where() {
        sentences.test("Promise 11", "Whether the program is never of two minds (one step, and 200)",
                OneWayEdgesTest::oneStepAnd200);
        sentences.test("Promise 11", "Whether the program is never of two minds (one behind the other)",
                OneWayEdgesTest::oneBehindTheOther);
        sentences.test("Promise 11", "from the beginning", OneWayEdgesTest::fromTheBeginning);
        sentences.test("Promise 11", "from each step that BYTES lead to that can be come to from there",
                OneWayEdgesTest::fromEachThatBytesLeadTo);
        sentences.test("Promise 11", "the beginning and these are 64 at most; with more: false",
                OneWayEdgesTest::sixtyFourInAChain);
        sentences.test("Promise 11", "the beginning and these are 64 at most; with more: false (the beginning once)",
                OneWayEdgesTest::theBeginningCountsOnce);
        sentences.test("Promise 11", "the beginning and these are 64 at most; with more: false (each once)",
                OneWayEdgesTest::eachCountsOnce);
        sentences.test("Promise 11", "that can be come to from there (others do not count)",
                OneWayEdgesTest::othersDoNotCount);
    }

    private static void oneStepAnd200() {
        checks.same("a new object", new StepMachines().isOneWay(), true);
        StepMachines x = new StepMachines();
        x.lay(200);
        checks.same("200 steps, begun with the END", x.isOneWay(), true);
        x.begin(199);
        checks.same("200 steps, begun with NEVER", x.isOneWay(), true);
        int[][] saves = new int[199][];
        for (int k = 1; k < 200; k++) {
            saves[k - 1] = k % 2 == 0 ? Laid.save(2 + k % 18, k - 1) : Laid.so(k % 6, k - 1);
        }
        is("all 200 steps one behind the other", true, 199, saves);
        saves[0] = Laid.save(2, 199);
        is("and back to the beginning", false, 199, saves);
    }

    /** What was told of a program has no part in what is told of the next one. */
    private static void oneBehindTheOther() {
        StepMachines x = Laid.program(1, Laid.either(2, 3), Laid.either(4, 4), Laid.save(2, 0), Laid.bytes('a', 1));
        for (int turn = 0; turn < 3; turn++) {
            checks.same("BYTES twice, much is still to be looked at", x.isOneWay(), false);
            checks.same("asked again", x.isOneWay(), false);
            x.step(2, Laid.SAVE, 3, 4, 0);
            checks.same("a step is another", x.isOneWay(), true);
            checks.same("asked again", x.isOneWay(), true);
            x.step(2, Laid.EITHER, 0, 4, 4);
            checks.same("the step is as before", x.isOneWay(), false);
            x.begin(3);
            checks.same("the beginning is another", x.isOneWay(), true);
            x.begin(4);
            checks.same("the beginning leads there", x.isOneWay(), false);
            x.step(4, Laid.BYTES, Laid.one('a'), 4, 0);
            checks.same("the byte leads elsewhere", x.isOneWay(), true);
            x.step(4, Laid.BYTES, Laid.one('a'), 1, 0);
            x.begin(1);
        }
        x.lay(1);
        checks.same("the program is another", x.isOneWay(), true);
    }

    private static void fromTheBeginning() {
        int[][] steps = {Laid.either(2, 2), Laid.bytes('a', 0), Laid.either(2, 0)};
        is("begun with what is of two minds", false, 1, steps);
        is("begun with a byte", true, 2, steps);
        is("begun with another EITHER", true, 3, steps);
        is("begun with the END", true, 0, steps);
    }

    private static void fromEachThatBytesLeadTo() {
        is("behind one byte", false, 1, Laid.bytes('a', 2), Laid.either(0, 0));
        is("behind two bytes", false, 1, Laid.bytes('a', 2), Laid.bytes('a', 3), Laid.either(0, 0));
        is("behind an assertion that is never so", false, 1, Laid.so(0, 2), Laid.so(4, 3), Laid.so(5, 4),
                Laid.bytes('a', 5), Laid.either(0, 0));
        is("behind the second of an EITHER", false, 1, Laid.either(0, 2), Laid.bytes('a', 3), Laid.either(0, 0));
        is("behind no byte that can be come to", true, 1, Laid.bytes('a', 0), Laid.bytes('a', 3),
                Laid.either(0, 0));
        is("behind NEVER", true, 1, Laid.never(), Laid.either(0, 0));
    }

    private static int[][] chain(int n) {
        int[][] steps = new int[n][];
        for (int k = 1; k <= n; k++) {
            steps[k - 1] = Laid.bytes('a', k - 1);
        }
        return steps;
    }

    /** n bytes, the beginning behind the last: n steps that BYTES lead to, and the beginning. */
    private static void sixtyFourInAChain() {
        is("63 bytes: 64 in all", true, 63, chain(63));
        is("64 bytes: 65 in all", false, 64, chain(64));
        is("199 bytes: 200 in all", false, 199, chain(199));
        is("62 bytes: 63 in all", true, 62, chain(62));
        int[][] steps = chain(63);
        steps[0] = Laid.bytes('a', 1);
        is("the last leads to itself: 63 in all, no END", true, 63, steps);
    }

    private static void theBeginningCountsOnce() {
        for (int n = 63; n <= 65; n++) {
            int[][] round = chain(n);
            round[0] = Laid.bytes('a', n);
            is("a round of " + n + " bytes: " + n + " in all", n <= 64, n, round);
        }
    }

    /** n BYTES beside one another, each of a byte of its own, to so many steps. */
    private static int[][] fan(int n, int targets) {
        int[][] steps = new int[n + n - 1 + targets][];
        for (int i = 0; i < n; i++) {
            int target = i % targets;
            steps[i] = Laid.bytes(i, 2 * n + target);
        }
        for (int i = 0; i < n - 1; i++) {
            steps[n + i] = Laid.either(i + 1, i == n - 2 ? n : n + i + 2);
        }
        for (int i = 0; i < targets; i++) {
            steps[2 * n - 1 + i] = Laid.never();
        }
        return steps;
    }

    private static void eachCountsOnce() {
        is("63 steps behind 63 bytes: 64 in all", true, 64, fan(63, 63));
        is("64 steps behind 64 bytes: 65 in all", false, 65, fan(64, 64));
        is("63 steps behind 68 bytes: 64 in all", true, 69, fan(68, 63));
        is("64 steps behind 67 bytes: 65 in all", false, 68, fan(67, 64));
        is("one step behind 99 bytes: 2 in all", true, 100, fan(99, 1));
    }

    private static void othersDoNotCount() {
        int[][] steps = chain(199);
        for (int n : new int[] {1, 62, 63}) {
            is("begun with " + n + " of 199", true, n, steps);
        }
        for (int n : new int[] {64, 65, 199}) {
            is("begun with " + n + " of 199", false, n, steps);
        }
        steps[99] = Laid.never();
        is("NEVER between", true, 163, steps);
        is("65 steps ahead of NEVER", false, 164, steps);
    }

    private static void twice() {
        sentences.test("Promise 11", "no step is come to twice", OneWayEdgesTest::noStepTwice);
        sentences.test("Promise 11", "no step is come to twice (a loop without bytes)", OneWayEdgesTest::loops);
        sentences.test("Promise 11", "whatever assertions say", OneWayEdgesTest::whateverAssertionsSay);
        sentences.test("Promise 11", "both ways of each EITHER", OneWayEdgesTest::bothWays);
    }

    private static void noStepTwice() {
        is("the END once", true, 1, Laid.either(0, 2), Laid.never());
        is("the END twice", false, 1, Laid.either(0, 0));
        is("NEVER twice", false, 1, Laid.either(2, 2), Laid.never());
        is("two NEVERs", true, 1, Laid.either(2, 3), Laid.never(), Laid.never());
        is("BYTES twice", false, 1, Laid.either(2, 3), Laid.bytes('a', 0), Laid.save(2, 2));
        is("SAVE twice", false, 1, Laid.either(2, 3), Laid.save(2, 4), Laid.so(0, 2), Laid.never());
        is("once without a byte and once behind one", true, 1, Laid.either(2, 3), Laid.bytes('a', 3),
                Laid.save(2, 0));
    }

    private static void loops() {
        is("the beginning again, first", false, 1, Laid.either(1, 0));
        is("the beginning again, second", false, 1, Laid.either(0, 1));
        is("a SAVE that leads to itself", false, 1, Laid.save(2, 1));
        is("an ASSERT that leads to itself", false, 1, Laid.so(0, 1));
        is("BYTES that lead to themselves", true, 1, Laid.bytes('a', 1));
        is("a loop with a byte", true, 1, Laid.either(2, 0), Laid.bytes('a', 1));
        is("a loop that is not come to", true, 0, Laid.either(1, 0));
    }

    private static void whateverAssertionsSay() {
        is("none before and a WORD byte on no side", false, 1, Laid.so(0, 2), Laid.so(4, 3), Laid.so(5, 4),
                Laid.either(0, 0));
        is("assertions that are never so together, to one step", false, 1, Laid.either(2, 3), Laid.so(4, 4),
                Laid.so(5, 4), Laid.never());
        is("BYTES behind assertions that are never so together", false, 1, Laid.either(2, 3), Laid.so(4, 4),
                Laid.so(5, 5), Laid.bytes('a', 0), Laid.bytes('a', 0));
    }

    private static void bothWays() {
        is("two minds behind the first", false, 1, Laid.either(2, 0), Laid.either(3, 3), Laid.never());
        is("two minds behind the second", false, 1, Laid.either(0, 2), Laid.either(3, 3), Laid.never());
        is("two minds behind the first's byte", false, 1, Laid.either(2, 0), Laid.bytes('a', 3),
                Laid.either(4, 4), Laid.never());
        is("neither", true, 1, Laid.either(2, 0), Laid.either(3, 4), Laid.never(), Laid.never());
    }

    private static void bytes() {
        sentences.test("Promise 11", "each byte is taken by one BYTES alone", OneWayEdgesTest::oneBytesAlone);
        sentences.test("Promise 11", "or by such as have saved the same PLACES", OneWayEdgesTest::samePlaces);
        sentences.test("Promise 11", "passed the same assertions since", OneWayEdgesTest::sameAssertions);
        sentences.test("Promise 11", "since (what is behind a byte counts anew)", OneWayEdgesTest::sinceTheByte);
        sentences.test("Promise 11", "are all come to ahead of the END or all behind it",
                OneWayEdgesTest::aheadOrBehind);
        sentences.test("Promise 11", "the first one with all that is behind it ahead of the second one",
                OneWayEdgesTest::firstWithAllBehindIt);
        sentences.test("Promise 11", "go on to the same step", OneWayEdgesTest::theSameStep);
    }

    private static void two(String what, boolean due, int low, int high, int otherLow, int otherHigh) {
        is(what, due, 1, Laid.either(2, 3), Laid.bytes(low, high, 4), Laid.bytes(otherLow, otherHigh, 5),
                Laid.never(), Laid.never());
    }

    private static void oneBytesAlone() {
        two("side by side", true, 'a', 'm', 'n', 'z');
        two("one byte in common", false, 'a', 'n', 'n', 'z');
        two("the later ones first", true, 'n', 'z', 'a', 'm');
        two("the later ones first, one in common", false, 'n', 'z', 'a', 'n');
        two("one within the other", false, 0, 255, 97, 97);
        two("0 and the others", true, 0, 0, 1, 255);
        two("0 twice", false, 0, 0, 0, 0);
        two("255 and the others", true, 255, 255, 0, 254);
        two("255 twice", false, 255, 255, 255, 255);
        two("0 and 255", true, 0, 0, 255, 255);
    }

    private static void behind(String what, boolean due, int[] first, int[] second) {
        is(what, due, 1, Laid.either(2, 3), first, second, Laid.bytes('a', 0), Laid.bytes('a', 0));
    }

    private static void samePlaces() {
        for (int k : new int[] {2, 19}) {
            behind("both " + k, true, Laid.save(k, 4), Laid.save(k, 5));
            behind("one " + k, false, Laid.save(k, 4), Laid.either(5, 0));
            behind("the other " + k, false, Laid.either(4, 0), Laid.save(k, 5));
        }
        for (int k = 2; k < 19; k++) {
            behind(k + " and " + (k + 1), false, Laid.save(k, 4), Laid.save(k + 1, 5));
        }
        is("the same in another order, and twice", true, 1, Laid.either(2, 4), Laid.save(2, 3), Laid.save(19, 7),
                Laid.save(19, 5), Laid.save(2, 6), Laid.save(19, 8), Laid.bytes('a', 0), Laid.bytes('a', 0));
        is("both ahead of the EITHER", true, 1, Laid.save(5, 2), Laid.either(3, 4), Laid.bytes('a', 0),
                Laid.bytes('a', 0));
        is("of bytes that are not the same", true, 1, Laid.either(2, 3), Laid.save(2, 4), Laid.save(3, 5),
                Laid.bytes('a', 0), Laid.bytes('b', 0));
    }

    private static void sameAssertions() {
        for (int what = 0; what <= 5; what++) {
            behind("both " + what, true, Laid.so(what, 4), Laid.so(what, 5));
            behind("one " + what, false, Laid.so(what, 4), Laid.either(5, 0));
            behind(what + " and another", false, Laid.so(what, 4), Laid.so((what + 1) % 6, 5));
        }
        behind("an assertion and a SAVE", false, Laid.so(2, 4), Laid.save(2, 5));
        is("the same in another order, and twice", true, 1, Laid.either(2, 4), Laid.so(0, 3), Laid.so(5, 7),
                Laid.so(5, 5), Laid.so(0, 6), Laid.so(5, 8), Laid.bytes('a', 0), Laid.bytes('a', 0));
    }

    private static void sinceTheByte() {
        is("saved ahead of the byte by one alone", true, 1, Laid.either(2, 3), Laid.save(2, 4), Laid.so(3, 5),
                Laid.bytes('a', 6), Laid.bytes('b', 6), Laid.either(7, 8), Laid.bytes('c', 0), Laid.bytes('c', 0));
    }

    private static void aheadOrBehind() {
        is("no END", true, 1, Laid.either(2, 3), Laid.bytes('a', 1), Laid.bytes('a', 1));
        is("both ahead of it", true, 1, Laid.either(2, 4), Laid.either(3, 5), Laid.bytes('a', 1), Laid.save(2, 0),
                Laid.bytes('a', 1));
        is("both behind it", true, 1, Laid.either(0, 2), Laid.either(3, 4), Laid.bytes('a', 1), Laid.bytes('a', 1));
        is("one ahead and one behind", false, 1, Laid.either(2, 3), Laid.bytes('a', 1), Laid.either(0, 4),
                Laid.bytes('a', 1));
        is("one ahead and one behind, of bytes that are not the same", true, 1, Laid.either(2, 3),
                Laid.bytes('a', 1), Laid.either(0, 4), Laid.bytes('b', 1));
        is("the END behind an assertion between them", false, 1, Laid.either(2, 3), Laid.bytes('a', 1),
                Laid.either(5, 4), Laid.bytes('a', 1), Laid.so(0, 0));
    }

    /** The first one's END, deep behind it, is ahead of the second one's bytes. */
    private static void firstWithAllBehindIt() {
        is("bytes, the END; bytes", false, 1, Laid.either(2, 3), Laid.either(4, 5), Laid.bytes('a', 1),
                Laid.bytes('a', 1), Laid.save(2, 0));
        is("bytes; bytes, the END", true, 1, Laid.either(3, 2), Laid.either(4, 5), Laid.bytes('a', 1),
                Laid.bytes('a', 1), Laid.save(2, 0));
        StepMachines x = Laid.program(1, Laid.either(2, 3), Laid.either(4, 0), Laid.bytes('b', 0),
                Laid.bytes('a', 1));
        Laid.put(x, "ab");
        checks.same("a first, then the END, then b", x.isOneWay(), true);
        asked.ends("a first, then the END, then b", x, 1, false, 0, 1);
        asked.ends("a first, then the END, then b, longest", x, 1, true, 0, 2);
    }

    private static void theSameStep() {
        for (int next : new int[] {0, 1, 4}) {
            is("both to " + next, true, 1, Laid.either(2, 3), Laid.bytes('a', next), Laid.bytes('a', next),
                    Laid.never());
        }
        is("to the END and to NEVER", false, 1, Laid.either(2, 3), Laid.bytes('a', 0), Laid.bytes('a', 4),
                Laid.never());
        is("two in common, a third to another step", false, 1, Laid.either(2, 3), Laid.bytes('a', 'c', 0),
                Laid.either(4, 5), Laid.bytes('b', 'd', 0), Laid.bytes('d', 'e', 6), Laid.never());
        is("two in common, a third alone", true, 1, Laid.either(2, 3), Laid.bytes('a', 'c', 0),
                Laid.either(4, 5), Laid.bytes('b', 'd', 0), Laid.bytes('e', 'e', 6), Laid.never());
    }
}
