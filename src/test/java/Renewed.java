/**
 * A program and a subject as they are written down in PlainWays, laid on a new object whenever the calls that an
 * object is used for would not do: what it answers behind its 512th call is free.
 */
final class Renewed {
    private static final int MOST_CALLS = 512;

    final PlainWays plain = new PlainWays();
    private StepMachines x = null;
    private int left = 0;
    private int states = 0;

    /** An object that has so many calls left at least; the caller makes as many at most. */
    StepMachines use(int calls) {
        if (left < calls) {
            x = new StepMachines();
            left = MOST_CALLS;
            layAll();
        }
        left -= calls;
        return x;
    }

    private void layAll() {
        x.lay(plain.size);
        for (int k = 1; k < plain.size; k++) {
            x.step(k, plain.kinds[k], plain.values[k], plain.firsts[k], plain.seconds[k]);
        }
        x.begin(plain.beginning);
        left -= plain.size + 1;
        for (int b : plain.subject) {
            x.put(b, 1);
            left--;
        }
        if (states != 0) {
            x.keep(states);
            left--;
        }
    }

    void write(int k, int kind, int value, int first, int second) {
        plain.kinds[k] = kind;
        plain.values[k] = value;
        plain.firsts[k] = first;
        plain.seconds[k] = second;
    }

    void change(int k, int kind, int value, int first, int second) {
        StepMachines y = use(1);
        write(k, kind, value, first, second);
        y.step(k, kind, value, first, second);
    }

    void subject(int... bytes) {
        StepMachines y = use(1 + bytes.length);
        plain.subject = bytes;
        y.clear();
        for (int b : bytes) {
            y.put(b, 1);
        }
    }

    void keep(int most) {
        StepMachines y = use(1);
        states = most;
        y.keep(most);
    }
}
