import java.util.Arrays;

/** The boundary cases that promises 5 and 6 name, put and clear, and the subject's own. */
public final class SubjectEdgesTest {
    private static final Sentences sentences = new Sentences();
    private static final Checks checks = sentences.checks;
    private static final Asked asked = new Asked(checks);

    public static void main(String[] args) {
        sentences.test("Terms", "THE SUBJECT: at most 200 bytes.", SubjectEdgesTest::twoHundredBytes);
        sentences.test("Promise 5", "The lowest n bytes of v", SubjectEdgesTest::lowestBytes);
        sentences.test("Promise 5", "the highest of them first", SubjectEdgesTest::highestFirst);
        sentences.test("Promise 5", "come to the subject: true", SubjectEdgesTest::zeroToEightCome);
        sentences.test("Promise 5", "false, and none come, if n is not 0 .. 8", SubjectEdgesTest::notZeroToEight);
        sentences.test("Promise 5", "false, and none come, if .. it would have more than 200",
                SubjectEdgesTest::notMoreThan200);
        sentences.test("Promise 5", "false, and none come, if .. it would have more than 200 (a full subject)",
                SubjectEdgesTest::toAFullSubject);
        sentences.test("Promise 6", "The subject is empty. (it was empty)", SubjectEdgesTest::clearAnEmptyOne);
        sentences.test("Promise 6", "The subject is empty. (it was full)", SubjectEdgesTest::clearAFullOne);
        sentences.test("Promise 6", "The subject is empty. (and nothing else is changed)",
                SubjectEdgesTest::clearLeavesTheRest);
        sentences.done("SubjectEdgesTest");
    }

    private static int[] times(int b, int length) {
        int[] bytes = new int[length];
        Arrays.fill(bytes, b);
        return bytes;
    }

    private static void twoHundredBytes() {
        StepMachines x = new StepMachines();
        for (int i = 0; i < 200; i++) {
            checks.same("byte " + i, x.put(i, 1), true);
        }
        checks.same("byte 200", x.put(0L, 1), false);
        StepMachines y = new StepMachines();
        int[] due = new int[200];
        for (int i = 0; i < 200; i += 8) {
            long eight = 0;
            for (int j = 0; j < 8; j++) {
                due[i + j] = (i + j) * 7 % 256;
                eight = eight << 8 | due[i + j];
            }
            checks.same("eight at " + i, y.put(eight, 8), true);
        }
        asked.subject("a full subject", y, due);
    }

    private static void lowestBytes() {
        int[] all = {0x81, 0x02, 0x83, 0x04, 0x85, 0x06, 0x87, 0x08};
        for (int n = 0; n <= 8; n++) {
            StepMachines x = new StepMachines();
            checks.same("put of " + n, x.put(0x8102830485068708L, n), true);
            asked.subject("the lowest " + n, x, Arrays.copyOfRange(all, 8 - n, 8));
        }
        long[] longs = {0L, -1L, Long.MAX_VALUE, Long.MIN_VALUE};
        int[] highest = {0, 255, 127, 128};
        int[] lowest = {0, 255, 255, 0};
        for (int i = 0; i < 4; i++) {
            StepMachines x = new StepMachines();
            checks.same("put of 8", x.put(longs[i], 8), true);
            checks.same("put of 1", x.put(longs[i], 1), true);
            int[] due = times(lowest[i], 9);
            due[0] = highest[i];
            asked.subject("all of " + longs[i] + " and its lowest", x, due);
        }
    }

    private static void highestFirst() {
        StepMachines x = new StepMachines();
        x.put(0x0102L, 2);
        x.put(0x030405L, 3);
        x.put(0x06L, 1);
        x.put(0x0708090A0B0C0D0EL, 8);
        asked.subject("one behind the other", x, 1, 2, 3, 4, 5, 6, 7, 8, 9, 10, 11, 12, 13, 14);
    }

    private static void zeroToEightCome() {
        StepMachines x = new StepMachines();
        int length = 0;
        for (int n = 0; n <= 8; n++) {
            checks.same("put of " + n, x.put(-1L, n), true);
            length += n;
            asked.length("behind a put of " + n, x, length);
        }
        checks.same("put of 0", x.put(Long.MIN_VALUE, 0), true);
        asked.subject("put of 0 brings nothing", x, times(255, 36));
    }

    private static final int[] NOT_ZERO_TO_EIGHT =
        {-1, 9, -8, 16, 64, 200, 256, 256 + 8, 65536, Laid.MAX, Laid.MIN, Laid.MIN + 8, Laid.MAX - 7};

    private static void notZeroToEight() {
        StepMachines x = new StepMachines();
        for (int n : NOT_ZERO_TO_EIGHT) {
            checks.same("put of " + n, x.put(0x4142434445464748L, n), false);
            asked.length("behind a put of " + n, x, 0);
        }
        checks.same("put of 2", x.put(0x6162L, 2), true);
        for (int n : NOT_ZERO_TO_EIGHT) {
            checks.same("put of " + n, x.put(0x4142434445464748L, n), false);
            asked.length("behind a put of " + n, x, 2);
        }
        checks.same("put of 1", x.put(0x63L, 1), true);
        asked.subject("none came", x, 0x61, 0x62, 0x63);
    }

    /** What just fits comes whole; what is one too long does not come at all, and then one less comes. */
    private static void notMoreThan200() {
        for (int n = 1; n <= 8; n++) {
            StepMachines x = new StepMachines();
            checks.same("200 - " + n, Laid.fill(x, 'a', 200 - n), true);
            checks.same("put of " + n + " to " + (200 - n), x.put(-1L, n), true);
            asked.length("it fits", x, 200);
            StepMachines y = new StepMachines();
            checks.same("201 - " + n, Laid.fill(y, 'a', 201 - n), true);
            checks.same("put of " + n + " to " + (201 - n), y.put(-1L, n), false);
            asked.length("it does not fit", y, 201 - n);
            checks.same("put of " + (n - 1), y.put(0x6262626262626262L, n - 1), true);
            int[] due = times('a', 200);
            Arrays.fill(due, 201 - n, 200, 'b');
            asked.subject("none of the " + n + " came", y, due);
        }
    }

    private static void toAFullSubject() {
        StepMachines x = new StepMachines();
        checks.same("200", Laid.fill(x, 'a', 200), true);
        for (int n = 1; n <= 8; n++) {
            checks.same("put of " + n, x.put(-1L, n), false);
        }
        for (int n : NOT_ZERO_TO_EIGHT) {
            checks.same("put of " + n, x.put(-1L, n), false);
        }
        checks.same("put of 0", x.put(-1L, 0), true);
        asked.noPlace("still 200", x, 201);
        asked.subject("still as it was", x, times('a', 200));
    }

    private static void clearAnEmptyOne() {
        StepMachines x = new StepMachines();
        x.clear();
        asked.length("cleared", x, 0);
        x.clear();
        asked.length("cleared twice", x, 0);
        asked.begins("the END is come to", x, 2, true, 0, 0, 0);
    }

    private static void clearAFullOne() {
        StepMachines x = Laid.program(1, Laid.so(0, 2), Laid.so(1, 0));
        checks.same("200", Laid.fill(x, 'a', 200), true);
        asked.ends("bytes before or behind", x, 0, false, 0, -1);
        x.clear();
        asked.ends("none before and none behind", x, 0, false, 0, 0);
        asked.noPlace("cleared", x, 1);
        asked.noPlace("cleared", x, 200);
        checks.same("200 more", Laid.fill(x, 'b', 200), true);
        checks.same("and no more", x.put(0L, 1), false);
        x.lay(2);
        x.step(1, Laid.BYTES, Laid.one('a'), 0, 0);
        x.begin(1);
        asked.ends("no byte of the former subject", x, 0, false, 0, -1);
    }

    private static void clearLeavesTheRest() {
        StepMachines x = Laid.with(Laid.program(2, Laid.save(19, 0), Laid.bytes('a', 1)), "ba");
        asked.begins("before", x, 0, false, 0, 1, 2);
        x.clear();
        checks.same("saved(0)", x.saved(0), 1);
        checks.same("saved(1)", x.saved(1), 2);
        checks.same("saved(19)", x.saved(19), 2);
        asked.ends("cleared", x, 0, false, 0, -1);
        Laid.put(x, "a");
        asked.begins("the program and its beginning stay", x, 0, false, 0, 0, 1);
        asked.steps("the program stays", x, 3);
    }
}
