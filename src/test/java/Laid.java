/** Short ways to write programs and subjects down. */
final class Laid {
    static final int BYTES = 1;
    static final int EITHER = 2;
    static final int SAVE = 3;
    static final int ASSERT = 4;
    static final int NEVER = 5;
    static final int MIN = Integer.MIN_VALUE;
    static final int MAX = Integer.MAX_VALUE;

    private Laid() {
    }

    static int range(int low, int high) {
        return low * 256 + high;
    }

    static int one(int b) {
        return range(b, b);
    }

    static int[] bytes(int low, int high, int next) {
        return new int[] {BYTES, range(low, high), next, 0};
    }

    static int[] bytes(int b, int next) {
        return bytes(b, b, next);
    }

    static int[] either(int first, int second) {
        return new int[] {EITHER, 0, first, second};
    }

    static int[] save(int place, int next) {
        return new int[] {SAVE, place, next, 0};
    }

    static int[] so(int what, int next) {
        return new int[] {ASSERT, what, next, 0};
    }

    static int[] never() {
        return new int[] {NEVER, 0, 0, 0};
    }

    /** The steps from 1 on. */
    static void lay(StepMachines x, int beginning, int[]... steps) {
        x.lay(steps.length + 1);
        for (int k = 1; k <= steps.length; k++) {
            int[] step = steps[k - 1];
            x.step(k, step[0], step[1], step[2], step[3]);
        }
        x.begin(beginning);
    }

    static StepMachines program(int beginning, int[]... steps) {
        StepMachines x = new StepMachines();
        lay(x, beginning, steps);
        return x;
    }

    /** One or more of a byte, the most first. */
    static StepMachines many(int b) {
        return program(1, bytes(b, 2), either(1, 0));
    }

    /**
     * Nearly 200 steps over 199 times a and a z: one of some rows of BYTES that take an a and never come to the END,
     * or else a and z. Ways from many places before are under way at 199, and the only one that is ever at the END,
     * from 198, is the last of them in order.
     */
    static StepMachines manyAtOnce(int rows) {
        int length = (197 - rows) / rows;
        int a = rows + 1;
        int[][] steps = new int[rows + 2 + rows * length][];
        steps[a - 1] = bytes('a', a + 1);
        steps[a] = bytes('z', 0);
        for (int row = 1; row <= rows; row++) {
            int begins = a + 2 + (row - 1) * length;
            int ends = begins + length - 1;
            steps[row - 1] = either(begins, row + 1);
            for (int k = begins; k <= ends; k++) {
                steps[k - 1] = bytes('a', Math.min(k + 1, ends));
            }
        }
        StepMachines x = program(1, steps);
        fill(x, 'a', 199);
        x.put('z', 1);
        return x;
    }

    static boolean put(StepMachines x, String text) {
        boolean all = true;
        for (int i = 0; i < text.length(); i++) {
            all &= x.put(text.charAt(i), 1);
        }
        return all;
    }

    /** As few calls as there can be. */
    static boolean fill(StepMachines x, int b, int length) {
        long eight = b * 0x0101010101010101L;
        boolean all = true;
        for (int left = length; left > 0; left -= 8) {
            all &= x.put(eight, Math.min(8, left));
        }
        return all;
    }

    static StepMachines with(StepMachines x, String text) {
        put(x, text);
        return x;
    }
}
