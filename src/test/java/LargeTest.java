import java.lang.management.ManagementFactory;
import java.util.Arrays;
import java.util.Random;

/** Programs of 200 steps over 200 bytes: the machines agree, none takes too many steps, and the room suffices. */
public final class LargeTest {
    /** 7.3 million fields and elements would be some 30 million bytes: a run is to need but a part. */
    private static final long MOST_ROOM = 4000000;

    private static final Checks checks = new Checks();
    private static final Random random = new Random(77);

    public static void main(String[] args) {
        for (int round = 0; round < 60; round++) {
            Renewed program = new Renewed();
            throwTogether(program, round);
            program.plain.subject = as();
            for (int i = 0; round % 2 != 0 && i < 25; i++) {
                program.plain.subject[random.nextInt(200)] = 'b';
            }
            askAll("round " + round, program);
        }
        nestedLoops();
        deepestWay();
        room();
        checks.done("LargeTest");
    }

    private static int[] as() {
        int[] subject = new int[200];
        Arrays.fill(subject, 'a');
        return subject;
    }

    private static void throwTogether(Renewed program, int round) {
        program.plain.size = 200;
        for (int k = 1; k < 200; k++) {
            int pick = random.nextInt(20);
            int kind = pick < 6 + round % 5 ? 1 : pick < 15 ? 2 : pick < 18 ? 3 : pick < 19 ? 4 : 5;
            int value = kind == 1 ? 'a' * 256 + 'a' + random.nextInt(2) : kind == 3 ? 2 + random.nextInt(18) : 5;
            program.write(k, kind, value, step(k, round), step(k, round));
        }
        program.plain.beginning = 199;
    }

    /** The END is seldom a next step, so that ways are long. */
    private static int step(int k, int round) {
        if (random.nextInt(400) == 0) {
            return 0;
        }
        return round % 3 == 0 ? 1 + random.nextInt(199) : Math.max(1, k - random.nextInt(5));
    }

    private static void askAll(String where, Renewed program) {
        for (int how = 0; how < 3; how++) {
            for (int from = 0; from <= 200; from += 67) {
                for (int l = 0; l < 2; l++) {
                    ask(where, program, how, l == 1, from);
                }
            }
        }
    }

    private static void ask(String where, Renewed program, int how, boolean longest, int from) {
        String call = where + " (" + how + ", " + longest + ", " + from + ")";
        StepMachines x = program.use(3 * 21 + 2);
        int end = x.match(how, longest, 0, from);
        int[] saved = new int[20];
        for (int k = 0; k < 20; k++) {
            saved[k] = x.saved(k);
        }
        for (int machine = 1; machine < 3; machine++) {
            checks.same(call + " by " + machine, x.match(how, longest, machine, from), end);
            for (int k = 0; k < 20; k++) {
                checks.same(call + " by " + machine + " saved(" + k + ")", x.saved(k), saved[k]);
            }
        }
        if (how != 0 || !longest) {
            checks.same(call + " ends", x.ends(how, longest, from), end);
        }
        checks.same(call + " over()", x.over(), 0);
        if (random.nextInt(3) == 0) {
            program.keep(4 + random.nextInt(61));
        }
    }

    /** ((((a*)*)*)*)* with no END behind it: ways without number, but few steps. */
    private static void nestedLoops() {
        Renewed program = new Renewed();
        program.plain.size = 200;
        for (int k = 2; k < 200; k++) {
            program.write(k, 2, 0, k - 1, k == 199 ? 2 : k + 1);
        }
        program.write(1, 1, 'a' * 256 + 'a', 199, 0);
        program.plain.beginning = 199;
        program.plain.subject = as();
        askAll("nested loops", program);
        checks.same("nested loops have no END", program.use(1).match(0, true, 1, 0), -1);
        program.change(2, 2, 0, 1, 0);
        askAll("nested loops with an END", program);
        checks.same("nested loops with an END", program.use(1).match(0, false, 2, 0), 200);
    }

    /** One way through nearly every step at every place, and at each of them a second one that waits all the while. */
    private static void deepestWay() {
        Renewed program = new Renewed();
        program.plain.size = 200;
        for (int k = 3; k < 200; k++) {
            program.write(k, 2, 0, k - 1, 199);
        }
        program.write(2, 2, 0, 1, 0);
        program.write(1, 1, 'a' * 256 + 'a', 199, 0);
        program.plain.beginning = 199;
        program.plain.subject = as();
        askAll("the deepest way", program);
        checks.same("the deepest way by marks", program.use(1).match(2, false, 1, 0), 200);
    }

    /** Programs and subjects that grow between dear calls, and new objects between them. */
    private static void room() {
        com.sun.management.ThreadMXBean bean =
                (com.sun.management.ThreadMXBean) ManagementFactory.getThreadMXBean();
        long thread = Thread.currentThread().getId();
        dearCalls(new StepMachines(), 8);
        long before = bean.getThreadAllocatedBytes(thread);
        dearCalls(new StepMachines(), 512);
        long one = bean.getThreadAllocatedBytes(thread) - before;
        checks.same("one object's 512 calls take little room: " + one, one < MOST_ROOM, true);
        for (int i = 0; i < 64; i++) {
            dearCalls(new StepMachines(), 8);
        }
        long many = bean.getThreadAllocatedBytes(thread) - before - one;
        checks.same("64 objects' 8 calls take little room: " + many, many < 5 * MOST_ROOM, true);
        System.out.println("bytes for 512 dear calls: " + one + " on one object, " + many + " on 64");
    }

    private static void dearCalls(StepMachines x, int calls) {
        for (int i = 0; i < calls; i += 8) {
            x.lay(Math.min(200, 8 + i));
            x.put(0L, Math.min(8, i / 8));
            x.keep(4 + i % 61);
            x.match(0, true, 0, 0);
            x.match(0, true, 1, 0);
            x.match(1, true, 2, 0);
            x.isOneWay();
            x.ends(0, false, 0);
        }
    }
}
