import java.util.function.Consumer;

/** The boundary cases of promise 12, over, and of the 512 calls that an object is used for. */
public final class CallsEdgesTest {
    private static final int MOST_CALLS = 512;
    private static final String CALLS = "An object is used for at most 512 calls after it has been made";

    private static final Sentences sentences = new Sentences();
    private static final Checks checks = sentences.checks;

    public static void main(String[] args) {
        over();
        lastCalls("behind small calls", CallsEdgesTest::smallCalls);
        lastCalls("behind the dearest calls", CallsEdgesTest::dearCalls);
        lastCalls("behind refused calls", CallsEdgesTest::refusedCalls);
        sentences.done("CallsEdgesTest");
    }

    private static void over() {
        sentences.test("Promise 12", "always 0 (no call yet)",
                () -> checks.same("over()", new StepMachines().over(), 0));
        sentences.test("Promise 12", "always 0 (one step, an empty subject)", CallsEdgesTest::theSmallest);
        sentences.test("Promise 12", "always 0 (200 steps, an empty subject)", () -> ofEach(200, 0));
        sentences.test("Promise 12", "always 0 (two steps, 200 bytes)", () -> ofEach(2, 200));
        sentences.test("Promise 12", "always 0 (200 steps, 200 bytes)", () -> ofEach(200, 200));
        sentences.test("Promise 12", "always 0 (many steps to make a table of)", CallsEdgesTest::aLargeTable);
        sentences.test("Promise 12", "always 0 (calls that are refused)", CallsEdgesTest::refusedOnes);
    }

    private static void askAll(String what, StepMachines x) {
        for (int how = 0; how < 3; how++) {
            for (int machine = 0; machine < 3; machine++) {
                x.match(how, false, machine, 0);
                checks.same(what + ": over() behind match() by " + machine, x.over(), 0);
                x.match(how, true, machine, 0);
                checks.same(what + ": over() behind match() by " + machine + ", longest", x.over(), 0);
            }
            x.ends(how, false, 0);
            checks.same(what + ": over() behind ends()", x.over(), 0);
        }
        x.ends(1, true, 0);
        x.ends(2, true, 0);
        checks.same(what + ": over() behind ends(), longest", x.over(), 0);
    }

    private static void theSmallest() {
        askAll("new", new StepMachines());
        StepMachines x = new StepMachines();
        x.lay(2);
        x.step(1, Laid.EITHER, 0, 1, 1);
        x.begin(1);
        askAll("a loop", x);
    }

    /** Every step but one is EITHER, to and fro, and no way is ever at the END; then one is at each place. */
    private static void ofEach(int steps, int length) {
        StepMachines x = new StepMachines();
        x.lay(steps);
        for (int k = 2; k < steps; k++) {
            x.step(k, Laid.EITHER, 0, k - 1, k == steps - 1 ? 1 : k + 1);
        }
        x.step(1, Laid.BYTES, 255, steps - 1, 0);
        x.begin(steps - 1);
        Laid.fill(x, 'a', length);
        askAll("no END", x);
        x.keep(4);
        x.step(steps - 1, Laid.EITHER, 0, Math.max(1, steps - 2), 0);
        askAll("an END everywhere", x);
    }

    /** 63 rows, each of all that is behind one of 63 EITHERs: BYTES i leads to EITHER i again. */
    private static void aLargeTable() {
        int[][] steps = new int[126][];
        for (int i = 1; i <= 63; i++) {
            steps[i - 1] = Laid.bytes(i, 63 + i);
            steps[62 + i] = Laid.either(i, i == 63 ? 0 : 64 + i);
        }
        StepMachines x = Laid.program(64, steps);
        askAll("a large table", x);
        checks.same("isOneWay()", x.isOneWay(), true);
        x.put(0x0102030405060708L, 8);
        askAll("a large table, over bytes", x);
        checks.same("match()", x.match(1, false, 2, 0), 8);
    }

    private static void refusedOnes() {
        StepMachines x = Laid.with(Laid.many('a'), "a");
        for (int i = 0; i < 100; i++) {
            int from = i % 2 == 0 ? -1 - i : 2 + i;
            checks.argument("match()", () -> x.match(0, true, 0, from));
            checks.argument("ends()", () -> x.ends(1, true, from));
            checks.same("over()", x.over(), 0);
        }
    }

    /** Each method as the 512th call, and each refusal. */
    private static void lastCalls(String behind, Consumer<StepMachines> calls) {
        sentences.test("What it is", CALLS + " (answers, " + behind + ")", () -> lastAnswers(calls));
        sentences.test("What it is", CALLS + " (changes, " + behind + ")", () -> lastChanges(calls));
        sentences.test("What it is", CALLS + " (refusals, " + behind + ")", () -> lastRefusals(calls));
    }

    private static void lastAnswers(Consumer<StepMachines> calls) {
        for (int machine = 0; machine < 3; machine++) {
            checks.same("match() by machine " + machine, used(calls, 1).match(0, false, machine, 0), 3);
            checks.same("match(), longest, by machine " + machine, used(calls, 1).match(1, true, machine, 1), 3);
            StepMachines x = used(calls, 3);
            checks.same("match() by machine " + machine, x.match(1, false, machine, 2), 3);
            checks.same("saved(0) by machine " + machine, x.saved(0), 2);
            checks.same("saved(1) by machine " + machine, x.saved(1), 3);
            checks.same("no match by machine " + machine, used(calls, 1).match(2, false, machine, 0), -1);
        }
        checks.same("ends()", used(calls, 1).ends(0, false, 0), 3);
        checks.same("ends(), longest", used(calls, 1).ends(1, true, 1), 3);
        checks.same("isOneWay()", used(calls, 1).isOneWay(), true);
        checks.same("over()", used(calls, 1).over(), 0);
        checks.same("put() of 8", used(calls, 1).put(-1L, 8), true);
        checks.same("put() of 9", used(calls, 1).put(-1L, 9), false);
    }

    /** The 511th call changes something, and the 512th one tells. */
    private static void lastChanges(Consumer<StepMachines> calls) {
        checks.same("lay()", changed(calls, x -> x.lay(200)).match(1, false, 0, 1), 1);
        checks.same("step()", changed(calls, x -> x.step(2, Laid.NEVER, 0, -1, -1)).match(1, false, 1, 1), -1);
        checks.same("begin()", changed(calls, x -> x.begin(2)).match(1, false, 2, 0), 0);
        checks.same("put()", changed(calls, x -> x.put('a', 1)).match(2, false, 0, 1), 4);
        checks.argument("clear()", () -> changed(calls, x -> x.clear()).match(0, false, 0, 1));
        checks.same("keep()", changed(calls, x -> x.keep(64)).ends(0, false, 0), 3);
        checks.same("match()", changed(calls, x -> x.match(0, false, 0, 0)).saved(0), 1);
        checks.taken("clear()", () -> used(calls, 1).clear());
        checks.taken("keep(64)", () -> used(calls, 1).keep(64));
        checks.taken("lay(200)", () -> used(calls, 1).lay(200));
        checks.taken("step()", () -> used(calls, 1).step(2, Laid.NEVER, 0, -1, -1));
        checks.taken("begin(2)", () -> used(calls, 1).begin(2));
    }

    private static StepMachines changed(Consumer<StepMachines> calls, Consumer<StepMachines> change) {
        StepMachines x = used(calls, 2);
        change.accept(x);
        return x;
    }

    private static void lastRefusals(Consumer<StepMachines> calls) {
        checks.argument("lay(201)", () -> used(calls, 1).lay(201));
        checks.index("step(3, ..)", () -> used(calls, 1).step(3, Laid.NEVER, 0, 0, 0));
        checks.argument("step() of kind 6", () -> used(calls, 1).step(1, 6, 0, 0, 0));
        checks.index("begin(3)", () -> used(calls, 1).begin(3));
        checks.argument("match() by machine 3", () -> used(calls, 1).match(0, false, 3, 0));
        checks.argument("match() from 4", () -> used(calls, 1).match(0, false, 0, 4));
        checks.argument("ends(), longest with how 0", () -> used(calls, 1).ends(0, true, 0));
        checks.argument("keep(65)", () -> used(calls, 1).keep(65));
    }

    /** An object that has so many of its calls left: a's, one or more, over "baa". */
    private static StepMachines used(Consumer<StepMachines> calls, int left) {
        StepMachines x = new StepMachines();
        calls.accept(x);
        for (int i = 0; i < MOST_CALLS - 400 - 6 - left; i++) {
            x.over();
        }
        x.clear();
        Laid.lay(x, 1, Laid.bytes('a', 2), Laid.either(1, 0));
        x.put(0x626161L, 3);
        return x;
    }

    /** 400 calls, as each of these does. */
    private static void smallCalls(StepMachines x) {
        for (int i = 0; i < 400; i += 10) {
            x.lay(1 + i % 200);
            x.begin(0);
            x.put(i, i % 9);
            x.keep(4 + i % 61);
            x.match(i % 3, true, i % 3, 0);
            x.saved(i % 20);
            x.ends(1, true, 0);
            x.isOneWay();
            x.clear();
            x.over();
        }
    }

    /** 226 calls to lay it, and the others with 200 steps over 200 bytes. */
    private static void dearCalls(StepMachines x) {
        x.lay(200);
        for (int k = 2; k < 200; k++) {
            x.step(k, k % 20 == 0 ? Laid.SAVE : Laid.EITHER, 2 + k % 18, k - 1, k == 199 ? 2 : k + 1);
        }
        x.step(1, Laid.BYTES, 255, 199, 0);
        x.begin(199);
        Laid.fill(x, 'a', 200);
        for (int i = 226; i < 400; i += 2) {
            x.match(0, i % 4 == 0, i % 3, 0);
            x.ends(1, true, i % 5);
        }
    }

    private static void refusedCalls(StepMachines x) {
        for (int i = 0; i < 400; i += 8) {
            int wrong = i % 16 == 0 ? Laid.MIN : Laid.MAX;
            checks.argument("lay()", () -> x.lay(wrong));
            checks.index("step()", () -> x.step(wrong, wrong, wrong, wrong, wrong));
            checks.index("begin()", () -> x.begin(wrong));
            checks.same("put()", x.put(wrong, wrong), false);
            checks.argument("match()", () -> x.match(wrong, true, wrong, wrong));
            checks.same("saved()", x.saved(wrong), -1);
            checks.argument("ends()", () -> x.ends(wrong, false, wrong));
            checks.argument("keep()", () -> x.keep(wrong));
        }
    }
}
