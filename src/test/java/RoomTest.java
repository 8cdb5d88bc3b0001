import com.sun.management.ThreadMXBean;
import java.lang.management.ManagementFactory;
import java.util.Random;
import java.util.function.Consumer;
import java.util.function.Supplier;

/**
 * The rows are made with the object: no call behind the constructor takes more room than an exception does. Each
 * call is made twice, each time on an object of its own, and measured the second time, since what the Java machine
 * itself loads at first is no room of the class.
 */
public final class RoomTest {
    /** 7.3 million fields and elements would be some 30 million bytes: an object is to take a hundredth at most. */
    private static final long MOST_FOR_AN_OBJECT = 300000;

    private static final Checks checks = new Checks();
    private static final ThreadMXBean bean = (ThreadMXBean) ManagementFactory.getThreadMXBean();
    private static final long thread = Thread.currentThread().getId();
    private static long mostForACall = 0;
    private static long forAnException = 0;
    private static Object held = null;

    public static void main(String[] args) {
        forAnException = secondTime(StepMachines::new, x -> refuse());
        checks.same("an exception takes room: " + forAnException, forAnException > 0, true);
        checks.same("rows are seen", secondTime(StepMachines::new, x -> held = new int[1000]) > forAnException, true);
        theObject();
        onNewObjects();
        onPrograms();
        oneAfterTheOther();
        System.out.println("bytes for an exception: " + forAnException + ", for the dearest call: " + mostForACall);
        checks.done("RoomTest");
    }

    private static void refuse() {
        throw new IllegalArgumentException("a program has 1 to 200 steps");
    }

    private static long taken(StepMachines x, Consumer<StepMachines> call) {
        long before = bean.getThreadAllocatedBytes(thread);
        try {
            call.accept(x);
        } catch (IllegalArgumentException | IndexOutOfBoundsException e) {
            held = e;
        }
        return bean.getThreadAllocatedBytes(thread) - before;
    }

    private static long secondTime(Supplier<StepMachines> maker, Consumer<StepMachines> call) {
        taken(maker.get(), call);
        return taken(maker.get(), call);
    }

    private static void takesNoRow(String what, Supplier<StepMachines> maker, Consumer<StepMachines> call) {
        seen(what, secondTime(maker, call));
    }

    private static void seen(String what, long bytes) {
        mostForACall = Math.max(mostForACall, bytes);
        checks.same(what + " takes no more than an exception: " + bytes, bytes <= forAnException, true);
    }

    private static void theObject() {
        long bytes = secondTime(() -> null, x -> held = new StepMachines());
        checks.same("an object holds its rows: " + bytes, bytes > 50 * forAnException, true);
        checks.same("an object is small: " + bytes, bytes < MOST_FOR_AN_OBJECT, true);
    }

    /** Each method as an object's very first call, answered and refused. */
    private static void onNewObjects() {
        Supplier<StepMachines> maker = StepMachines::new;
        takesNoRow("a first lay(200)", maker, x -> x.lay(200));
        takesNoRow("a first lay(0)", maker, x -> x.lay(0));
        takesNoRow("a first step(0, ..)", maker, x -> x.step(0, 5, 0, 0, 0));
        takesNoRow("a first step(1, ..)", maker, x -> x.step(1, 5, 0, 0, 0));
        takesNoRow("a first begin(0)", maker, x -> x.begin(0));
        takesNoRow("a first begin(1)", maker, x -> x.begin(1));
        takesNoRow("a first put(.., 8)", maker, x -> x.put(-1L, 8));
        takesNoRow("a first put(.., 9)", maker, x -> x.put(-1L, 9));
        takesNoRow("a first clear()", maker, x -> x.clear());
        takesNoRow("a first saved(2)", maker, x -> x.saved(2));
        takesNoRow("a first saved(20)", maker, x -> x.saved(20));
        takesNoRow("a first match() refused", maker, x -> x.match(0, false, 3, 0));
        takesNoRow("a first ends() refused", maker, x -> x.ends(0, true, 0));
        takesNoRow("a first keep(64)", maker, x -> x.keep(64));
        takesNoRow("a first keep(65)", maker, x -> x.keep(65));
        takesNoRow("a first over()", maker, x -> x.over());
        asksAll("of a new object", maker);
    }

    /** The largest there are: 200 steps and 200 bytes, and each machine's dearest among them. */
    private static void onPrograms() {
        checks.same("loops lead nowhere", loops().match(0, true, 1, 0), -1);
        checks.same("the table goes one way", oneWay().isOneWay(), true);
        checks.same("one way goes to the subject's end", oneWay().match(1, false, 2, 0), 200);
        checks.same("all kinds lead to the END", allKinds().ends(1, true, 0) > 0, true);
        asksAll("of loops in loops", RoomTest::loops);
        asksAll("of one way", RoomTest::oneWay);
        asksAll("of all kinds", RoomTest::allKinds);
        takesNoRow("the last step()", RoomTest::asked, x -> x.step(199, 1, 255, 1, 0));
        takesNoRow("a wrong value", RoomTest::asked, x -> x.step(199, 3, 20, 1, 0));
        takesNoRow("lay(200) again", RoomTest::asked, x -> x.lay(200));
        takesNoRow("begin(199)", RoomTest::asked, x -> x.begin(199));
        takesNoRow("clear()", RoomTest::asked, x -> x.clear());
        takesNoRow("put() beyond 200", RoomTest::asked, x -> x.put(0L, 1));
        takesNoRow("saved(19)", RoomTest::asked, x -> x.saved(19));
        takesNoRow("keep(64) behind ends()", RoomTest::asked, x -> x.keep(64));
        takesNoRow("ends() behind keep(64)", RoomTest::keptMore, x -> x.ends(0, false, 0));
    }

    private static void asksAll(String where, Supplier<StepMachines> maker) {
        takesNoRow("isOneWay() " + where, maker, x -> x.isOneWay());
        for (int how = 0; how < 3; how++) {
            for (int l = 0; l < 2; l++) {
                asks(where, maker, how, l == 1);
            }
        }
    }

    private static void asks(String where, Supplier<StepMachines> maker, int how, boolean longest) {
        String asked = "(" + how + ", " + longest + ", .., 0) " + where;
        for (int machine = 0; machine < 3; machine++) {
            int by = machine;
            takesNoRow("match" + asked + " by " + by, maker, x -> x.match(how, longest, by, 0));
        }
        takesNoRow("ends" + asked, maker, x -> x.ends(how, longest, 0));
    }

    /** 512 calls on one object, each measured: programs and subjects grow, states are kept and forgotten. */
    private static void oneAfterTheOther() {
        dearCalls(new StepMachines());
        dearCalls(new StepMachines());
    }

    private static void dearCalls(StepMachines x) {
        Random random = new Random(5);
        for (int i = 0; i < 512; i += 16) {
            int n = Math.min(200, 8 + i);
            seen("lay", taken(x, y -> y.lay(n)));
            for (int k = 1; k < 8; k++) {
                int a = 1 + random.nextInt(n - 1);
                int b = random.nextInt(n);
                int kind = 1 + k % 4;
                seen("step", taken(x, y -> y.step(a, kind, kind == 1 ? 255 : 4, a - 1, b)));
            }
            int from = 1 + random.nextInt(n - 1);
            int states = 4 + random.nextInt(61);
            seen("begin", taken(x, y -> y.begin(from)));
            seen("put", taken(x, y -> y.put(-1L, 8)));
            seen("keep", taken(x, y -> y.keep(states)));
            seen("match 0", taken(x, y -> y.match(0, true, 0, 0)));
            seen("match 1", taken(x, y -> y.match(0, true, 1, 0)));
            seen("match 2", taken(x, y -> y.match(1, true, 2, 0)));
            seen("ends", taken(x, y -> y.ends(0, false, 0)));
            seen("isOneWay", taken(x, y -> y.isOneWay()));
        }
    }

    private static StepMachines full(Consumer<StepMachines> steps) {
        StepMachines x = new StepMachines();
        x.lay(200);
        steps.accept(x);
        Random random = new Random(9);
        for (int i = 0; i < 25; i++) {
            x.put(0x6161616161616161L + random.nextInt(2) + (random.nextInt(2) << 16), 8);
        }
        return x;
    }

    /** Every step but one is EITHER, and no way is at the END before all is tried: marks wait by the thousand. */
    private static StepMachines loops() {
        return full(x -> {
            for (int k = 2; k < 200; k++) {
                x.step(k, 2, 0, k - 1, k == 199 ? 2 : k + 1);
            }
            x.step(1, 1, 'a' * 256 + 'b', 199, 0);
            x.begin(199);
        });
    }

    /** 64 rows of a table, each with a SAVE: the bytes go round and round. */
    private static StepMachines oneWay() {
        return full(x -> {
            for (int k = 1; k < 193; k += 3) {
                x.step(k, 2, 0, k + 1, 0);
                x.step(k + 1, 3, 2 + k % 18, k + 2, 0);
                x.step(k + 2, 1, 255, k == 190 ? 1 : k + 3, 0);
            }
            x.begin(1);
        });
    }

    /** (a|b)*a(a|b)(a|b).. with assertions and SAVEs between: more states than can be kept. */
    private static StepMachines allKinds() {
        return full(x -> {
            x.step(1, 2, 0, 2, 3);
            x.step(2, 1, 'a' * 256 + 'b', 1, 0);
            x.step(3, 1, 'a' * 256 + 'a', 4, 0);
            for (int k = 4; k < 199; k += 3) {
                x.step(k, 4, 5, k + 1, 0);
                x.step(k + 1, 3, 2 + k % 18, k + 2, 0);
                x.step(k + 2, 1, 'a' * 256 + 'b', k == 196 ? 0 : k + 3, 0);
            }
            x.begin(1);
        });
    }

    private static StepMachines asked() {
        StepMachines x = allKinds();
        for (int machine = 0; machine < 3; machine++) {
            x.match(1, true, machine, 0);
        }
        x.ends(1, true, 0);
        x.isOneWay();
        return x;
    }

    private static StepMachines keptMore() {
        StepMachines x = asked();
        x.keep(64);
        return x;
    }
}
