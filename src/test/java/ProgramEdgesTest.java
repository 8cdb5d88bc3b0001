/** The boundary cases that promises 1 to 4 name: a new object, lay, step, begin. */
public final class ProgramEdgesTest {
    private static final Sentences sentences = new Sentences();
    private static final Checks checks = sentences.checks;
    private static final Asked asked = new Asked(checks);

    public static void main(String[] args) {
        aNewObject();
        lay();
        stepTakes();
        stepRefuses();
        begin();
        sentences.done("ProgramEdgesTest");
    }

    private static void aNewObject() {
        sentences.test("Promise 1", "A program of one step", ProgramEdgesTest::newHasOneStep);
        sentences.test("Promise 1", "the END, which is its beginning", ProgramEdgesTest::newBeginsWithItsEnd);
        sentences.test("Promise 1", "The subject is empty.", ProgramEdgesTest::newSubjectIsEmpty);
    }

    private static void newHasOneStep() {
        StepMachines x = new StepMachines();
        asked.steps("new", x, 1);
        checks.index("step(1, ..)", () -> x.step(1, Laid.NEVER, 0, 0, 0));
        checks.index("step(0, ..)", () -> x.step(0, Laid.NEVER, 0, 0, 0));
        checks.index("step(-1, ..)", () -> x.step(-1, Laid.NEVER, 0, 0, 0));
        checks.same("isOneWay()", x.isOneWay(), true);
    }

    private static void newBeginsWithItsEnd() {
        for (int how = 0; how < 3; how++) {
            StepMachines x = new StepMachines();
            asked.begins("new", x, how, false, 0, 0, 0);
            asked.begins("new, longest", x, how, true, 0, 0, 0);
        }
        StepMachines old = Laid.with(Laid.many('a'), "b");
        asked.ends("an older object", old, 1, false, 0, -1);
        asked.begins("one made behind it", new StepMachines(), 1, false, 0, 0, 0);
    }

    private static void newSubjectIsEmpty() {
        StepMachines x = new StepMachines();
        asked.noPlace("new", x, 1);
        asked.length("new", x, 0);
        StepMachines y = Laid.program(1, Laid.so(0, 2), Laid.so(1, 0));
        asked.ends("none is before and none is behind", y, 1, false, 0, 0);
        checks.same("all 200 bytes come", Laid.fill(y, 'a', 200), true);
        asked.length("an older object", y, 200);
        asked.length("one made behind it", new StepMachines(), 0);
    }

    private static void lay() {
        sentences.test("Promise 2", "A program of n steps", ProgramEdgesTest::layGivesSteps);
        sentences.test("Promise 2", "but for the END all are NEVER", ProgramEdgesTest::allAreNever);
        sentences.test("Promise 2", "it begins with step 0", ProgramEdgesTest::laidBeginsWithStep0);
        sentences.test("Promise 2", "IllegalArgumentException: n is not 1 .. 200.", ProgramEdgesTest::layRefuses);
        sentences.test("Promise 2", "IllegalArgumentException: n is not 1 .. 200. (nothing is changed)",
                ProgramEdgesTest::aRefusedLayChangesNothing);
    }

    private static void layGivesSteps() {
        StepMachines x = new StepMachines();
        for (int n : new int[] {1, 200, 2, 199, 1, 100}) {
            checks.taken("lay(" + n + ")", () -> x.lay(n));
            asked.steps("lay(" + n + ")", x, n);
        }
        x.lay(1);
        checks.index("step(1, ..) of one", () -> x.step(1, Laid.NEVER, 0, 0, 0));
        x.lay(200);
        checks.taken("step(199, ..) of 200", () -> x.step(199, Laid.BYTES, Laid.one('a'), 0, 0));
        checks.index("step(200, ..) of 200", () -> x.step(200, Laid.NEVER, 0, 0, 0));
    }

    /** All 199 steps led to the END before; each is begun with, forty on an object, by all machines. */
    private static void allAreNever() {
        for (int from = 1; from < 200; from += 40) {
            StepMachines x = new StepMachines();
            x.lay(200);
            for (int k = 1; k < 200; k++) {
                x.step(k, Laid.SAVE, 2, 0, 0);
            }
            x.begin(199);
            asked.ends("before", x, 1, false, 0, 0);
            x.lay(200);
            for (int k = from; k < from + 40 && k < 200; k++) {
                x.begin(k);
                asked.ends("laid step " + k, x, 0, false, 0, -1);
            }
        }
        StepMachines y = Laid.program(1, Laid.save(2, 0), Laid.save(2, 0));
        y.lay(1);
        y.lay(3);
        for (int k = 1; k < 3; k++) {
            y.begin(k);
            asked.ends("laid step " + k + ", with a smaller program between", y, 0, false, 0, -1);
        }
    }

    private static void laidBeginsWithStep0() {
        for (int n : new int[] {1, 2, 200}) {
            StepMachines x = Laid.program(1, Laid.bytes('a', 0));
            asked.ends("before", x, 1, false, 0, -1);
            x.lay(n);
            asked.begins("lay(" + n + ")", x, 1, true, 0, 0, 0);
            asked.begins("lay(" + n + ")", x, 2, false, 0, 0, 0);
        }
    }

    private static void layRefuses() {
        StepMachines x = new StepMachines();
        checks.taken("lay(1)", () -> x.lay(1));
        checks.taken("lay(200)", () -> x.lay(200));
        for (int n : new int[] {0, 201, -1, -200, 255, 256, 257, 65537, Laid.MAX, Laid.MIN, Laid.MIN + 1}) {
            checks.argument("lay(" + n + ")", () -> x.lay(n));
        }
    }

    private static void aRefusedLayChangesNothing() {
        for (int n : new int[] {0, 201, -1, Laid.MAX, Laid.MIN}) {
            StepMachines x = Laid.with(Laid.many('a'), "aab");
            x.match(1, false, 0, 0);
            checks.argument("lay(" + n + ")", () -> x.lay(n));
            checks.same("saved(1)", x.saved(1), 2);
            asked.begins("behind lay(" + n + ")", x, 1, false, 0, 0, 2);
            asked.length("behind lay(" + n + ")", x, 3);
            asked.steps("behind lay(" + n + ")", x, 3);
        }
    }

    private static void stepTakes() {
        sentences.test("Promise 3", "Step k is of a kind 1 .. 5", ProgramEdgesTest::eachKindIsTaken);
        sentences.test("Promise 3", "value is LOW times 256 and HIGH (1)", ProgramEdgesTest::lowAndHigh);
        sentences.test("Promise 3", "the PLACE (3)", ProgramEdgesTest::eachPlace);
        sentences.test("Promise 3", "what must be so (4)", ProgramEdgesTest::eachAssertion);
        sentences.test("Promise 3", "What does not count may be anything", ProgramEdgesTest::anythingThatDoesNotCount);
        sentences.test("Promise 3", "first of NEVER, too", ProgramEdgesTest::anythingOfNever);
    }

    /** One step, made another kind each time: what it was before is gone. */
    private static void eachKindIsTaken() {
        StepMachines x = Laid.with(Laid.program(1, Laid.never(), Laid.never(), Laid.bytes('a', 0)), "ab");
        int[][] steps = {Laid.bytes('a', 0), Laid.either(2, 3), Laid.save(2, 3), Laid.so(0, 0), Laid.never()};
        int[] due = {1, 1, 1, 0, -1};
        for (int turn = 0; turn < 10; turn++) {
            int[] step = steps[turn * 3 % 5];
            checks.taken("kind " + step[0], () -> x.step(1, step[0], step[1], step[2], step[3]));
            asked.ends("kind " + step[0], x, 1, false, 0, due[turn * 3 % 5]);
        }
    }

    private static void lowAndHigh() {
        StepMachines x = Laid.program(1, Laid.never());
        x.put(0x000180FEFFL, 5);
        int[][] due = {{0, 0, 0}, {255, 255, 4}, {0, 255, 0}, {1, 1, 1}, {1, 255, 1}, {254, 254, 3}, {128, 254, 2}};
        for (int[] row : due) {
            checks.taken("LOW " + row[0] + ", HIGH " + row[1],
                    () -> x.step(1, Laid.BYTES, row[0] * 256 + row[1], 0, 0));
            asked.begins("LOW " + row[0] + ", HIGH " + row[1], x, 0, false, 0, row[2], row[2] + 1);
        }
    }

    private static void eachPlace() {
        for (int place = 2; place <= 19; place++) {
            StepMachines x = Laid.with(Laid.program(2, Laid.never(), Laid.bytes('a', 1)), "a");
            int p = place;
            checks.taken("PLACE " + place, () -> x.step(1, Laid.SAVE, p, 0, 0));
            for (int machine = 0; machine < 3; machine++) {
                x.match(1, false, machine, 0);
                for (int k = 2; k <= 19; k++) {
                    checks.same("PLACE " + place + ": saved(" + k + ")", x.saved(k), k == place ? 1 : -1);
                }
            }
        }
    }

    private static void eachAssertion() {
        int[] due = {0, 2, 0, 2, 1, 0};
        StepMachines x = Laid.with(Laid.program(1, Laid.never()), " a");
        for (int what = 0; what <= 5; what++) {
            int w = what;
            checks.taken("assertion " + what, () -> x.step(1, Laid.ASSERT, w, 0, 0));
            asked.ends("assertion " + what, x, 0, false, 0, due[what]);
        }
    }

    private static void anythingThatDoesNotCount() {
        StepMachines x = Laid.with(Laid.program(1, Laid.never(), Laid.never(), Laid.bytes('a', 0)), "a");
        for (int any : new int[] {Laid.MIN, -1, 0, 4, 200, 65536, Laid.MAX}) {
            checks.taken("second of BYTES " + any, () -> x.step(1, Laid.BYTES, Laid.one('a'), 0, any));
            asked.ends("second of BYTES " + any, x, 1, false, 0, 1);
            checks.taken("value of EITHER " + any, () -> x.step(1, Laid.EITHER, any, 2, 3));
            asked.ends("value of EITHER " + any, x, 1, false, 0, 1);
            checks.taken("second of SAVE " + any, () -> x.step(1, Laid.SAVE, 2, 3, any));
            asked.ends("second of SAVE " + any, x, 1, false, 0, 1);
            checks.taken("second of ASSERT " + any, () -> x.step(1, Laid.ASSERT, 0, 3, any));
            asked.ends("second of ASSERT " + any, x, 1, false, 0, 1);
        }
    }

    private static void anythingOfNever() {
        for (int any : new int[] {Laid.MIN, -1, 0, 3, 200, 65536, Laid.MAX}) {
            StepMachines x = Laid.with(Laid.program(1, Laid.save(2, 0), Laid.save(2, 0)), "a");
            checks.taken("first of NEVER " + any, () -> x.step(1, Laid.NEVER, 0, any, 0));
            asked.ends("first of NEVER " + any, x, 0, false, 0, -1);
            checks.taken("second of NEVER " + any, () -> x.step(1, Laid.NEVER, 0, 0, any));
            asked.ends("second of NEVER " + any, x, 0, false, 0, -1);
            checks.taken("value of NEVER " + any, () -> x.step(1, Laid.NEVER, any, 0, 0));
            asked.ends("value of NEVER " + any, x, 0, false, 0, -1);
            checks.taken("all of NEVER " + any, () -> x.step(1, Laid.NEVER, any, any, any));
            asked.ends("all of NEVER " + any, x, 0, false, 0, -1);
            checks.same("isOneWay()", x.isOneWay(), true);
        }
    }

    private static void stepRefuses() {
        sentences.test("Promise 3", "IndexOutOfBoundsException: k .. is no step, k is 0",
                ProgramEdgesTest::noSuchK);
        sentences.test("Promise 3", "IndexOutOfBoundsException: .. first .. is no step",
                ProgramEdgesTest::noSuchFirst);
        sentences.test("Promise 3", "IndexOutOfBoundsException: .. (of EITHER) second is no step",
                ProgramEdgesTest::noSuchSecond);
        sentences.test("Promise 3", "IllegalArgumentException: no such kind", ProgramEdgesTest::noSuchKind);
        sentences.test("Promise 3", "value is not LOW and HIGH, 0 .. 255 each, LOW at most HIGH (1)",
                ProgramEdgesTest::noSuchBytes);
        sentences.test("Promise 3", "value is not .. 2 .. 19 (3)", ProgramEdgesTest::noSuchPlaceToSave);
        sentences.test("Promise 3", "value is not .. 0 .. 5 (4)", ProgramEdgesTest::noSuchAssertion);
        sentences.test("Promise 3", "IndexOutOfBoundsException .. IllegalArgumentException (nothing is changed)",
                ProgramEdgesTest::aRefusedStepChangesNothing);
    }

    private static final int[][] OF_EACH_KIND =
        {Laid.bytes('a', 0), Laid.either(0, 0), Laid.save(2, 0), Laid.so(0, 0), Laid.never()};

    private static void noSuchK() {
        for (int n : new int[] {2, 3, 200}) {
            StepMachines x = new StepMachines();
            x.lay(n);
            for (int[] s : OF_EACH_KIND) {
                checks.taken("step(1, " + s[0] + ", ..) of " + n, () -> x.step(1, s[0], s[1], s[2], s[3]));
                checks.taken("step(" + (n - 1) + ", ..) of " + n, () -> x.step(n - 1, s[0], s[1], s[2], s[3]));
                for (int k : new int[] {0, n, -1, n + 1, 256, 256 + 1, 65537, Laid.MAX, Laid.MIN, Laid.MIN + 1}) {
                    checks.index("step(" + k + ", " + s[0] + ", ..) of " + n, () -> x.step(k, s[0], s[1], s[2], s[3]));
                }
            }
        }
        StepMachines y = new StepMachines();
        for (int k : new int[] {0, 1, -1, Laid.MAX, Laid.MIN}) {
            checks.index("step(" + k + ", ..) of a new object", () -> y.step(k, Laid.NEVER, 0, 0, 0));
        }
    }

    private static void noSuchFirst() {
        for (int n : new int[] {2, 3, 200}) {
            StepMachines x = new StepMachines();
            x.lay(n);
            for (int i = 0; i < 4; i++) {
                int[] s = OF_EACH_KIND[i];
                for (int first : new int[] {0, 1, n - 1}) {
                    checks.taken("first " + first + " of kind " + s[0], () -> x.step(1, s[0], s[1], first, 0));
                }
                for (int first : new int[] {n, -1, n + 1, 256, 65536, Laid.MAX, Laid.MIN}) {
                    checks.index("first " + first + " of kind " + s[0], () -> x.step(1, s[0], s[1], first, 0));
                }
            }
        }
    }

    private static void noSuchSecond() {
        for (int n : new int[] {2, 3, 200}) {
            StepMachines x = new StepMachines();
            x.lay(n);
            for (int second : new int[] {0, 1, n - 1}) {
                checks.taken("second " + second, () -> x.step(1, Laid.EITHER, 0, 0, second));
            }
            for (int second : new int[] {n, -1, n + 1, 256, 65536, Laid.MAX, Laid.MIN}) {
                checks.index("second " + second, () -> x.step(1, Laid.EITHER, 0, 0, second));
                for (int kind : new int[] {Laid.SAVE, Laid.ASSERT, Laid.NEVER, Laid.BYTES}) {
                    checks.taken("second " + second + " of kind " + kind,
                            () -> x.step(1, kind, kind == Laid.BYTES ? 255 : 2, 0, second));
                }
            }
        }
    }

    private static void noSuchKind() {
        StepMachines x = new StepMachines();
        x.lay(2);
        for (int kind : new int[] {1, 5}) {
            checks.taken("kind " + kind, () -> x.step(1, kind, 0, 0, 0));
        }
        for (int kind : new int[] {0, 6, -1, 7, 256 + 1, 65536 + 5, Laid.MAX, Laid.MIN, Laid.MIN + 1}) {
            for (int value : new int[] {0, 2, -1}) {
                checks.argument("kind " + kind, () -> x.step(1, kind, value, 0, 0));
            }
        }
    }

    private static void noSuchBytes() {
        StepMachines x = new StepMachines();
        x.lay(2);
        for (int value : new int[] {0, 255, 256 + 1, 256 + 255, 65535, Laid.range(254, 255), Laid.range(97, 98)}) {
            checks.taken("value " + value, () -> x.step(1, Laid.BYTES, value, 0, 0));
        }
        for (int value : new int[] {-1, 65536, 256, Laid.range(255, 254), Laid.range(2, 1), Laid.range(98, 97),
            65536 + 255, 65536 + 256 + 255, -256, -257, -65281, Laid.MAX, Laid.MIN, Laid.MIN + 255}) {
            checks.argument("value " + value, () -> x.step(1, Laid.BYTES, value, 0, 0));
        }
    }

    private static void noSuchPlaceToSave() {
        StepMachines x = new StepMachines();
        x.lay(2);
        for (int value : new int[] {2, 3, 18, 19}) {
            checks.taken("value " + value, () -> x.step(1, Laid.SAVE, value, 0, 0));
        }
        for (int value : new int[] {1, 20, 0, -1, -2, 21, 34, 258, Laid.MAX, Laid.MIN, Laid.MIN + 2}) {
            checks.argument("value " + value, () -> x.step(1, Laid.SAVE, value, 0, 0));
        }
    }

    private static void noSuchAssertion() {
        StepMachines x = new StepMachines();
        x.lay(2);
        for (int value : new int[] {0, 1, 4, 5}) {
            checks.taken("value " + value, () -> x.step(1, Laid.ASSERT, value, 0, 0));
        }
        for (int value : new int[] {-1, 6, 7, 32, 256, Laid.MAX, Laid.MIN}) {
            checks.argument("value " + value, () -> x.step(1, Laid.ASSERT, value, 0, 0));
        }
    }

    /** Step 1 takes an a; each of these is refused, and it still does. */
    private static void aRefusedStepChangesNothing() {
        StepMachines x = Laid.with(Laid.program(1, Laid.bytes('a', 2), Laid.either(1, 0)), "aab");
        asked.begins("before", x, 1, false, 0, 0, 2);
        int[][] byIndex = {{0, Laid.NEVER, 0, 0, 0}, {3, Laid.NEVER, 0, 0, 0}, {1, Laid.SAVE, 2, 3, 0},
            {2, Laid.EITHER, 0, 0, 3}, {2, Laid.EITHER, 0, -1, 0}, {1, Laid.ASSERT, 1, Laid.MIN, 0}};
        for (int[] s : byIndex) {
            checks.index("step(" + s[0] + ", " + s[1] + ", ..)", () -> x.step(s[0], s[1], s[2], s[3], s[4]));
            asked.begins("behind step(" + s[0] + ", " + s[1] + ", ..)", x, 1, false, 0, 0, 2);
        }
        int[][] byArgument = {{1, 0, 0, 0, 0}, {1, 6, 0, 0, 0}, {1, Laid.BYTES, 65536, 0, 0},
            {1, Laid.BYTES, 256, 0, 0}, {1, Laid.SAVE, 1, 0, 0}, {2, Laid.SAVE, 20, 0, 0}, {2, Laid.ASSERT, 6, 0, 0}};
        for (int[] s : byArgument) {
            checks.argument("step(" + s[0] + ", " + s[1] + ", ..)", () -> x.step(s[0], s[1], s[2], s[3], s[4]));
            asked.begins("behind step(" + s[0] + ", " + s[1] + ", ..)", x, 1, false, 0, 0, 2);
        }
        checks.same("isOneWay()", x.isOneWay(), true);
    }

    private static void begin() {
        sentences.test("Promise 4", "The program begins with a step.", ProgramEdgesTest::beginsWithAStep);
        sentences.test("Promise 4", "IndexOutOfBoundsException: there is none such.", ProgramEdgesTest::noneSuch);
        sentences.test("Promise 4", "IndexOutOfBoundsException: there is none such. (nothing is changed)",
                ProgramEdgesTest::aRefusedBeginChangesNothing);
    }

    /** Step k takes k bytes: the first step, the END, and the last one of 200. */
    private static void beginsWithAStep() {
        StepMachines x = new StepMachines();
        x.lay(200);
        for (int k = 1; k < 200; k++) {
            x.step(k, Laid.BYTES, 255, k - 1, 0);
        }
        checks.same("200 bytes", Laid.fill(x, 'a', 200), true);
        for (int k : new int[] {0, 1, 2, 198, 199, 0, 199}) {
            checks.taken("begin(" + k + ")", () -> x.begin(k));
            asked.begins("begin(" + k + ")", x, 1, false, 1, 1, 1 + k);
        }
    }

    private static void noneSuch() {
        for (int n : new int[] {1, 2, 3, 200}) {
            StepMachines x = new StepMachines();
            x.lay(n);
            checks.taken("begin(0) of " + n, () -> x.begin(0));
            checks.taken("begin(" + (n - 1) + ") of " + n, () -> x.begin(n - 1));
            for (int k : new int[] {n, -1, n + 1, 201, 256, 65536, Laid.MAX, Laid.MIN}) {
                checks.index("begin(" + k + ") of " + n, () -> x.begin(k));
            }
        }
        StepMachines y = Laid.many('a');
        y.lay(2);
        checks.index("a step of the former program", () -> y.begin(2));
    }

    private static void aRefusedBeginChangesNothing() {
        StepMachines x = Laid.with(Laid.many('a'), "aab");
        for (int k : new int[] {3, -1, Laid.MAX, Laid.MIN}) {
            checks.index("begin(" + k + ")", () -> x.begin(k));
            asked.begins("behind begin(" + k + ")", x, 1, false, 0, 0, 2);
        }
    }
}
