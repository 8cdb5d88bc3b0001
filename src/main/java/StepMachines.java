import java.util.Arrays;

/**
 * Programs of small steps over bytes and the machines that run them. Every machine answers the same; they
 * differ in how they come to the answer. All rows are made with the object, for the largest program and subject
 * there can be, and used again: no call makes any.
 */
public final class StepMachines {
    public static final int NONE = -1;

    private static final int MOST_STEPS = 200;
    private static final int MOST_BYTES = 200;
    private static final int BYTE_VALUES = 256;

    /** Places 0 and 1 are where a way begins and ends, the others are for SAVE. */
    private static final int PLACES = 20;
    private static final int FIRST_SAVE = 2;
    private static final int ASSERTIONS = 6;
    private static final int NEW_LINE = 10;

    /** The END is step 0, and it alone has the kind 0. */
    private static final int END = 0;
    private static final int BYTES = 1;
    private static final int EITHER = 2;
    private static final int SAVE = 3;
    private static final int ASSERT = 4;
    private static final int NEVER = 5;

    private static final int ANYWHERE = 0;
    private static final int HERE = 1;
    private static final int WHOLE = 2;

    private static final int BY_THREADS = 0;
    private static final int BY_MARKS = 1;
    private static final int BY_TABLE = 2;

    private static final int FEWEST_STATES = 4;
    private static final int MOST_STATES = 64;
    private static final int STATES_AT_FIRST = 32;

    /** No walk needs nearly so many turns: the longest comes to 200 steps at 201 places, thrice each. */
    private static final int MOST_TURNS = 1000000;

    private final Program program = new Program();
    private final Subject subject = new Subject();
    private final Tally tally = new Tally();
    private final int[] latest = new int[PLACES];
    private final Threads threads = new Threads(program, subject, tally, latest);
    private final Marks marks = new Marks(program, subject, tally, latest);
    private final Table table = new Table(program, subject, tally, latest);
    private final States states = new States(program, subject, tally);

    public StepMachines() {
        Arrays.fill(latest, NONE);
    }

    public void lay(int n) throws IllegalArgumentException {
        if (n < 1 || n > MOST_STEPS) {
            throw new IllegalArgumentException("a program has 1 to 200 steps");
        }
        program.layOut(n);
        forgetWhatWasMade();
    }

    public void step(int k, int kind, int value, int first, int second)
            throws IndexOutOfBoundsException, IllegalArgumentException {
        if (k == 0 || !program.has(k)) {
            throw new IndexOutOfBoundsException("k is the END or no step");
        }
        if (kind != NEVER && !program.has(first)) {
            throw new IndexOutOfBoundsException("first is no step");
        }
        if (kind == EITHER && !program.has(second)) {
            throw new IndexOutOfBoundsException("second is no step");
        }
        if (kind < BYTES || kind > NEVER) {
            throw new IllegalArgumentException("no such kind");
        }
        if (!Program.isValue(kind, value)) {
            throw new IllegalArgumentException("no such value for this kind");
        }
        program.change(k, kind, value, first, second);
        forgetWhatWasMade();
    }

    public void begin(int k) throws IndexOutOfBoundsException {
        if (!program.has(k)) {
            throw new IndexOutOfBoundsException("k is no step");
        }
        program.beginWith(k);
        forgetWhatWasMade();
    }

    public boolean put(long v, int n) {
        if (n < 0 || n > 8 || subject.length() + n > MOST_BYTES) {
            return false;
        }
        for (int i = n - 1; i >= 0; i--) {
            subject.append((int) (v >>> (8 * i)) & 255);
        }
        return true;
    }

    public void clear() {
        subject.empty();
    }

    public int match(int how, boolean longest, int machine, int from) throws IllegalArgumentException {
        if (machine < BY_THREADS || machine > BY_TABLE) {
            throw new IllegalArgumentException("no such machine");
        }
        if (!isQuestion(how, from)) {
            throw new IllegalArgumentException("no such how or no such place");
        }
        Arrays.fill(latest, NONE);
        tally.open();
        // A table goes from one place alone, and holds one-way programs alone: threads do what it can't.
        if (machine == BY_MARKS) {
            marks.run(how, longest, from);
        } else if (machine == BY_TABLE && how != ANYWHERE && table.isSingleMinded()) {
            table.run(how, longest, from);
        } else {
            threads.run(how, longest, from);
        }
        tally.close(mostTaken());
        return latest[1];
    }

    public int saved(int k) {
        return k >= 0 && k < PLACES ? latest[k] : NONE;
    }

    public int ends(int how, boolean longest, int from) throws IllegalArgumentException {
        if (!isQuestion(how, from)) {
            throw new IllegalArgumentException("no such how or no such place");
        }
        if (longest && how == ANYWHERE) {
            throw new IllegalArgumentException("states do not find the longest anywhere");
        }
        tally.open();
        int end = states.run(how, longest, from);
        tally.close(mostTaken());
        return end;
    }

    public void keep(int states) throws IllegalArgumentException {
        if (states < FEWEST_STATES || states > MOST_STATES) {
            throw new IllegalArgumentException("4 to 64 states can be kept");
        }
        this.states.allow(states);
    }

    public boolean isOneWay() {
        return table.isSingleMinded();
    }

    public int over() {
        return tally.overruns;
    }

    private boolean isQuestion(int how, int from) {
        return how >= ANYWHERE && how <= WHOLE && from >= 0 && from <= subject.length();
    }

    private int mostTaken() {
        return 60 * program.size() * (subject.length() + 20);
    }

    private void forgetWhatWasMade() {
        table.forget();
        states.forget();
    }

    /** The steps. What is asked about a number that is no step has an answer, too: it is a NEVER. */
    private static final class Program {
        private final int[] kinds = new int[MOST_STEPS];
        private final int[] values = new int[MOST_STEPS];
        private final int[] firsts = new int[MOST_STEPS];
        private final int[] seconds = new int[MOST_STEPS];
        private int size = 1;
        private int beginning = 0;

        static boolean isValue(int kind, int value) {
            switch (kind) {
                case BYTES:
                    return value >= 0 && value < BYTE_VALUES * BYTE_VALUES
                            && value / BYTE_VALUES <= value % BYTE_VALUES;
                case SAVE:
                    return value >= FIRST_SAVE && value < PLACES;
                case ASSERT:
                    return value >= 0 && value < ASSERTIONS;
                default:
                    return true;
            }
        }

        void layOut(int n) {
            size = Math.max(1, Math.min(n, MOST_STEPS));
            beginning = 0;
            for (int k = 1; k < size; k++) {
                change(k, NEVER, 0, 0, 0);
            }
        }

        /** What does not count is stored as 0, since it may be anything. */
        void change(int k, int kind, int value, int first, int second) {
            if (k != END && has(k)) {
                kinds[k] = kind;
                values[k] = kind == EITHER || kind == NEVER ? 0 : value;
                firsts[k] = kind == NEVER ? 0 : first;
                seconds[k] = kind == EITHER ? second : 0;
            }
        }

        void beginWith(int k) {
            beginning = has(k) ? k : beginning;
        }

        int beginning() {
            return beginning;
        }

        int size() {
            return size;
        }

        boolean has(int k) {
            return k >= 0 && k < size;
        }

        int kindOf(int k) {
            return has(k) ? kinds[k] : NEVER;
        }

        int valueOf(int k) {
            return has(k) ? values[k] : 0;
        }

        int firstOf(int k) {
            return has(k) ? firsts[k] : NONE;
        }

        int secondOf(int k) {
            return has(k) ? seconds[k] : NONE;
        }

        boolean takes(int k, int b) {
            return has(k) && kinds[k] == BYTES && b >= values[k] / BYTE_VALUES && b <= values[k] % BYTE_VALUES;
        }
    }

    /** The bytes, and what is so between them. */
    private static final class Subject {
        private final int[] bytes = new int[MOST_BYTES];
        private int length = 0;

        /** A bit for each assertion, so that what is so between two bytes is found out but once. */
        static int whatIsSo(int before, int behind) {
            int so = isWord(before) != isWord(behind) ? 1 << 4 : 1 << 5;
            if (before == NONE) {
                so |= 1 << 0 | 1 << 2;
            }
            if (behind == NONE) {
                so |= 1 << 1 | 1 << 3;
            }
            if (before == NEW_LINE) {
                so |= 1 << 2;
            }
            if (behind == NEW_LINE) {
                so |= 1 << 3;
            }
            return so;
        }

        static boolean isWord(int b) {
            return b >= '0' && b <= '9' || b >= 'A' && b <= 'Z' || b >= 'a' && b <= 'z' || b == '_';
        }

        void empty() {
            length = 0;
        }

        int length() {
            return length;
        }

        void append(int b) {
            if (length < MOST_BYTES) {
                bytes[length] = b & 255;
                length++;
            }
        }

        int byteBehind(int place) {
            return place >= 0 && place < length ? bytes[place] : NONE;
        }

        int whatIsSoAt(int place) {
            return whatIsSo(byteBehind(place - 1), byteBehind(place));
        }

        boolean mayEnd(int how, int place) {
            return how != WHOLE || place == length;
        }
    }

    /** How many steps a call has taken, and how many calls took too many. */
    private static final class Tally {
        private int taken = 0;
        int overruns = 0;

        void open() {
            taken = 0;
        }

        void count() {
            taken++;
        }

        void close(int most) {
            if (taken > most) {
                overruns++;
            }
        }
    }

    /** Steps in order, and which steps were met while the row was made. */
    private static final class Row {
        private final int[] steps = new int[MOST_STEPS];
        private final int[] met = new int[MOST_STEPS];
        private int count = 0;
        private int turn = 1;

        /** A new number for the turn makes all steps unmet without a walk over them. */
        void empty() {
            count = 0;
            turn++;
        }

        /** What is no step is never met anew. */
        boolean meets(int step) {
            if (step < 0 || step >= MOST_STEPS || met[step] == turn) {
                return false;
            }
            met[step] = turn;
            return true;
        }

        void add(int step) {
            if (count < MOST_STEPS) {
                steps[count] = step;
                count++;
            }
        }

        int count() {
            return count;
        }

        int get(int i) {
            return i >= 0 && i < count ? steps[i] : NONE;
        }
    }

    /**
     * What is still to be done, the latest first: come to a step at a place, or put back what a PLACE held
     * before a SAVE, when all that is behind the SAVE has been tried.
     */
    private static final class Jobs {
        /** A job takes 16 bits, and four of them one element: there may be as many as pairs of step and place. */
        private static final int EACH = 4;
        private static final int BITS = 16;
        private static final long ONE_JOB = (1L << BITS) - 1;

        /** Jobs from here on put back: no step at a place has so high a number. */
        private static final int PUT_BACKS = (MOST_BYTES + 1) * BYTE_VALUES;

        private final long[] fours;
        private int count = 0;

        Jobs(int room) {
            fours = new long[room < 0 ? 0 : room / EACH + 1];
        }

        static int stepAt(int step, int place) {
            return place * BYTE_VALUES + step;
        }

        static int stepOf(int job) {
            return job % BYTE_VALUES;
        }

        static int placeOf(int job) {
            return job / BYTE_VALUES;
        }

        /** What a PLACE held is NONE or a place, so that one more than it fits into a byte. */
        static int putBackOf(int k, int held) {
            return PUT_BACKS + k * BYTE_VALUES + held + 1;
        }

        static boolean isPutBack(int job) {
            return job >= PUT_BACKS;
        }

        static void putBack(int job, int[] places) {
            int k = (job - PUT_BACKS) / BYTE_VALUES;
            if (k >= 0 && k < places.length) {
                places[k] = (job - PUT_BACKS) % BYTE_VALUES - 1;
            }
        }

        /** The job that puts back is left behind. */
        void save(int k, int place, int[] places) {
            if (k >= 0 && k < places.length) {
                add(putBackOf(k, places[k]));
                places[k] = place;
            }
        }

        void drop() {
            count = 0;
        }

        boolean isEmpty() {
            return count == 0;
        }

        void add(int job) {
            int at = count / EACH;
            if (at < fours.length) {
                int shift = count % EACH * BITS;
                fours[at] = fours[at] & ~(ONE_JOB << shift) | (job & ONE_JOB) << shift;
                count++;
            }
        }

        int take() {
            if (count == 0) {
                return END;
            }
            count--;
            return (int) (fours[count / EACH] >>> (count % EACH * BITS) & ONE_JOB);
        }
    }

    /**
     * Rows of threads: all ways go over the subject together, byte by byte, and a step that is come to again at
     * a place is left out, since the thread that came first is ahead of it in order.
     */
    private static final class Threads {
        private final Program program;
        private final Subject subject;
        private final Tally tally;
        private final int[] best;
        private final int[] now = new int[PLACES];
        private final Jobs jobs = new Jobs(2 * MOST_STEPS + 2);
        private Row here = new Row();
        private Row next = new Row();
        private int[] savedHere = new int[MOST_STEPS * PLACES];
        private int[] savedNext = new int[MOST_STEPS * PLACES];
        private int so = 0;

        Threads(Program program, Subject subject, Tally tally, int[] best) {
            this.program = program;
            this.subject = subject;
            this.tally = tally;
            this.best = best;
        }

        void run(int how, boolean longest, int from) {
            here.empty();
            for (int place = from; place <= subject.length(); place++) {
                if (best[1] == NONE && (how == ANYWHERE || place == from)) {
                    beginThread(place);
                }
                next.empty();
                goOverByte(how, longest, place);
                swapRows();
            }
        }

        /** Behind all threads that are there: an earlier beginning comes ahead. */
        private void beginThread(int place) {
            Arrays.fill(now, NONE);
            now[0] = place;
            so = subject.whatIsSoAt(place);
            comeTo(program.beginning(), place, here, savedHere);
        }

        private void goOverByte(int how, boolean longest, int place) {
            int b = subject.byteBehind(place);
            so = subject.whatIsSoAt(place + 1);
            for (int i = 0; i < here.count(); i++) {
                int step = here.get(i);
                if (best[1] != NONE && beginningOf(step) > best[0]) {
                    continue;
                }
                if (step == END) {
                    if (subject.mayEnd(how, place)) {
                        readSaved(step, best);
                        best[1] = place;
                        if (!longest) {
                            return;
                        }
                    }
                } else if (program.takes(step, b)) {
                    readSaved(step, now);
                    comeTo(program.firstOf(step), place + 1, next, savedNext);
                }
            }
        }

        private int beginningOf(int step) {
            return program.has(step) ? savedHere[step * PLACES] : NONE;
        }

        private void readSaved(int step, int[] places) {
            if (program.has(step)) {
                System.arraycopy(savedHere, step * PLACES, places, 0, PLACES);
            }
        }

        private void writeSaved(int step, int[] saved) {
            if (program.has(step)) {
                System.arraycopy(now, 0, saved, step * PLACES, PLACES);
            }
        }

        private void swapRows() {
            Row row = here;
            here = next;
            next = row;
            int[] saved = savedHere;
            savedHere = savedNext;
            savedNext = saved;
        }

        private void comeTo(int first, int place, Row row, int[] saved) {
            jobs.drop();
            jobs.add(first);
            for (int turn = 0; turn < MOST_TURNS && !jobs.isEmpty(); turn++) {
                int job = jobs.take();
                if (Jobs.isPutBack(job)) {
                    Jobs.putBack(job, now);
                } else {
                    visit(job, place, row, saved);
                }
            }
        }

        private void visit(int step, int place, Row row, int[] saved) {
            tally.count();
            if (!row.meets(step)) {
                return;
            }
            int value = program.valueOf(step);
            switch (program.kindOf(step)) {
                case END:
                case BYTES:
                    row.add(step);
                    writeSaved(step, saved);
                    break;
                case EITHER:
                    jobs.add(program.secondOf(step));
                    jobs.add(program.firstOf(step));
                    break;
                case SAVE:
                    jobs.save(value, place, now);
                    jobs.add(program.firstOf(step));
                    break;
                case ASSERT:
                    if ((so >> value & 1) != 0) {
                        jobs.add(program.firstOf(step));
                    }
                    break;
                default:
                    break;
            }
        }
    }

    /**
     * Marks of what was tried: one way after the other, in order. A step that was tried at a place is not tried
     * there again: all that is behind it has failed, or is shorter or later in order than what was found.
     */
    private static final class Marks {
        /** Pairs of a step and a place; each may leave one job behind. */
        private static final int MOST_PAIRS = MOST_STEPS * (MOST_BYTES + 1);
        private static final int WORD_BITS = 32;

        private final Program program;
        private final Subject subject;
        private final Tally tally;
        private final int[] best;
        private final int[] now = new int[PLACES];
        private final Jobs jobs = new Jobs(MOST_PAIRS + 2);
        private final int[] tried = new int[MOST_PAIRS / WORD_BITS + 1];

        Marks(Program program, Subject subject, Tally tally, int[] best) {
            this.program = program;
            this.subject = subject;
            this.tally = tally;
            this.best = best;
        }

        /** The marks stay from one beginning to the next: what led to no END leads to none later, either. */
        void run(int how, boolean longest, int from) {
            wipe();
            int last = how == ANYWHERE ? subject.length() : Math.min(from, subject.length());
            for (int place = from; place <= last && best[1] == NONE; place++) {
                tryFrom(place, how, longest);
            }
        }

        /** Only what this program and this subject can mark: a small program is not to pay for the largest. */
        private void wipe() {
            int words = program.size() * (subject.length() + 1) / WORD_BITS + 1;
            for (int word = 0; word < words && word < tried.length; word++) {
                tried[word] = 0;
            }
        }

        private void tryFrom(int first, int how, boolean longest) {
            Arrays.fill(now, NONE);
            now[0] = first;
            jobs.drop();
            jobs.add(Jobs.stepAt(program.beginning(), first));
            for (int turn = 0; turn < MOST_TURNS && !jobs.isEmpty(); turn++) {
                int job = jobs.take();
                if (Jobs.isPutBack(job)) {
                    Jobs.putBack(job, now);
                } else {
                    visit(Jobs.stepOf(job), Jobs.placeOf(job), how);
                }
                if (best[1] != NONE && !longest) {
                    return;
                }
            }
        }

        private boolean isNew(int step, int place) {
            int pair = place * program.size() + step;
            int word = pair / WORD_BITS;
            int bit = 1 << (pair % WORD_BITS);
            if (word < 0 || word >= tried.length || (tried[word] & bit) != 0) {
                return false;
            }
            tried[word] |= bit;
            return true;
        }

        private void visit(int step, int place, int how) {
            tally.count();
            if (!isNew(step, place)) {
                return;
            }
            int value = program.valueOf(step);
            switch (program.kindOf(step)) {
                case END:
                    end(place, how);
                    break;
                case BYTES:
                    if (program.takes(step, subject.byteBehind(place))) {
                        jobs.add(Jobs.stepAt(program.firstOf(step), place + 1));
                    }
                    break;
                case EITHER:
                    jobs.add(Jobs.stepAt(program.secondOf(step), place));
                    jobs.add(Jobs.stepAt(program.firstOf(step), place));
                    break;
                case SAVE:
                    jobs.save(value, place, now);
                    jobs.add(Jobs.stepAt(program.firstOf(step), place));
                    break;
                case ASSERT:
                    if ((subject.whatIsSoAt(place) >> value & 1) != 0) {
                        jobs.add(Jobs.stepAt(program.firstOf(step), place));
                    }
                    break;
                default:
                    break;
            }
        }

        private void end(int place, int how) {
            if (subject.mayEnd(how, place) && place > best[1]) {
                System.arraycopy(now, 0, best, 0, PLACES);
                best[1] = place;
            }
        }
    }

    /**
     * A table for programs that are never of two minds: a row for the beginning and for each step that BYTES
     * lead to, with what each byte does there. An action is the next row (6 bits), whether it is behind the END
     * (1 bit), and the conditions: the PLACES that are saved (18 bits) and the assertions that must hold (6).
     */
    private static final class Table {
        private static final int MOST_ROWS = 64;
        private static final int NEXT_ROW = MOST_ROWS - 1;
        private static final int BEHIND_END = MOST_ROWS;
        private static final int CONDITIONS_FROM = 7;
        private static final int ASSERTIONS_FROM = PLACES - FIRST_SAVE;

        private final Program program;
        private final Subject subject;
        private final Tally tally;
        private final int[] best;
        private final int[] now = new int[PLACES];
        private final int[] actions = new int[MOST_ROWS * BYTE_VALUES];
        private final int[] endings = new int[MOST_ROWS];
        private final int[] stepOfRow = new int[MOST_ROWS];
        private final int[] rowOfStep = new int[MOST_STEPS];
        private final int[] since = new int[MOST_STEPS];
        private final Row walked = new Row();
        private final Jobs jobs = new Jobs(2 * MOST_STEPS + 2);
        private int rows = 0;
        private boolean made = false;
        private boolean single = false;

        Table(Program program, Subject subject, Tally tally, int[] best) {
            this.program = program;
            this.subject = subject;
            this.tally = tally;
            this.best = best;
        }

        void forget() {
            made = false;
        }

        boolean isSingleMinded() {
            if (!made) {
                make();
                made = true;
            }
            return single;
        }

        private void make() {
            Arrays.fill(rowOfStep, NONE);
            rows = 0;
            rowFor(program.beginning());
            single = true;
            for (int row = 0; row < MOST_ROWS && row < rows && single; row++) {
                single = makeRow(row);
            }
        }

        /** NONE if there would be too many rows. */
        private int rowFor(int step) {
            if (!program.has(step)) {
                return NONE;
            }
            if (rowOfStep[step] == NONE && rows < MOST_ROWS) {
                rowOfStep[step] = rows;
                stepOfRow[rows] = step;
                rows++;
            }
            return rowOfStep[step];
        }

        private boolean makeRow(int row) {
            for (int b = 0; b < BYTE_VALUES; b++) {
                actions[row * BYTE_VALUES + b] = NONE;
            }
            endings[row] = NONE;
            walked.empty();
            jobs.drop();
            later(stepOfRow[row], 0);
            boolean good = true;
            for (int turn = 0; turn < MOST_TURNS && good && !jobs.isEmpty(); turn++) {
                int step = jobs.take();
                tally.count();
                good = walked.meets(step) && walk(row, step, since[step]);
            }
            return good;
        }

        /** One note for each step is enough: a step that waits twice is come to twice, and then no row is made. */
        private void later(int step, int conditions) {
            if (program.has(step)) {
                since[step] = conditions;
                jobs.add(step);
            }
        }

        private boolean walk(int row, int step, int conditions) {
            int value = program.valueOf(step);
            switch (program.kindOf(step)) {
                case END:
                    endings[row] = conditions;
                    return true;
                case BYTES:
                    return takeBytes(row, step, conditions);
                case EITHER:
                    later(program.secondOf(step), conditions);
                    later(program.firstOf(step), conditions);
                    return true;
                case SAVE:
                    later(program.firstOf(step), conditions | 1 << (value - FIRST_SAVE));
                    return true;
                case ASSERT:
                    later(program.firstOf(step), conditions | 1 << (ASSERTIONS_FROM + value));
                    return true;
                default:
                    return true;
            }
        }

        private boolean takeBytes(int row, int step, int conditions) {
            int next = rowFor(program.firstOf(step));
            if (next == NONE) {
                return false;
            }
            int order = endings[row] == NONE ? 0 : BEHIND_END;
            int action = conditions << CONDITIONS_FROM | order | next;
            int low = program.valueOf(step) / BYTE_VALUES;
            int high = program.valueOf(step) % BYTE_VALUES;
            for (int b = Math.max(0, low); b < BYTE_VALUES && b <= high; b++) {
                int at = row * BYTE_VALUES + b;
                if (actions[at] != NONE && actions[at] != action) {
                    return false;
                }
                actions[at] = action;
            }
            return true;
        }

        void run(int how, boolean longest, int from) {
            Arrays.fill(now, NONE);
            now[0] = from;
            int row = 0;
            for (int place = from; place <= subject.length(); place++) {
                tally.count();
                boolean ended = endHere(row, how, place);
                int b = subject.byteBehind(place);
                int action = b == NONE ? NONE : actions[row * BYTE_VALUES + b];
                if (action == NONE || ended && !longest && (action & BEHIND_END) != 0) {
                    return;
                }
                int conditions = action >> CONDITIONS_FROM;
                if (!allHold(conditions, place)) {
                    return;
                }
                save(conditions, place, now);
                row = action & NEXT_ROW;
            }
        }

        private boolean endHere(int row, int how, int place) {
            int conditions = endings[row];
            if (conditions == NONE || !subject.mayEnd(how, place) || !allHold(conditions, place)) {
                return false;
            }
            System.arraycopy(now, 0, best, 0, PLACES);
            save(conditions, place, best);
            best[1] = place;
            return true;
        }

        private boolean allHold(int conditions, int place) {
            int needed = conditions >> ASSERTIONS_FROM;
            return (needed & subject.whatIsSoAt(place)) == needed;
        }

        private static void save(int conditions, int place, int[] places) {
            for (int k = FIRST_SAVE; k < PLACES; k++) {
                if ((conditions >> (k - FIRST_SAVE) & 1) != 0) {
                    places[k] = place;
                }
            }
        }
    }

    /** Numbers 0 .. 255, eight to an element: what an object takes is counted by elements. */
    private static final class Packed {
        static final int EACH = 8;
        private static final int BITS = 8;
        private static final long ONE_NUMBER = 255;

        private final long[] eights;

        Packed(int room) {
            eights = new long[room < 0 ? 0 : room / EACH + 1];
        }

        int get(int i) {
            int at = i / EACH;
            return i < 0 || at >= eights.length ? 0 : (int) (eights[at] >>> (i % EACH * BITS) & ONE_NUMBER);
        }

        void set(int i, int number) {
            int at = i / EACH;
            if (i >= 0 && at < eights.length) {
                int shift = i % EACH * BITS;
                eights[at] = eights[at] & ~(ONE_NUMBER << shift) | (number & ONE_NUMBER) << shift;
            }
        }

        /** Whole elements alone: both from and room are to be multiples of EACH. */
        void wipe(int from, int room) {
            int last = (from + room) / EACH;
            for (int at = from / EACH; at >= 0 && at < last && at < eights.length; at++) {
                eights[at] = 0;
            }
        }
    }

    /**
     * The states that are kept, and their moves that are known. A state is a row of steps in order, not yet
     * followed, and a label: what they are followed for, and what byte is before.
     */
    private static final class Kept {
        /** All bytes, and none. */
        static final int SYMBOLS = BYTE_VALUES + 1;
        static final int UNKNOWN = 0;

        /** Somewhat more than SYMBOLS, so that the moves of each state can be wiped by themselves. */
        private static final int MOVES_ROOM = (SYMBOLS / Packed.EACH + 1) * Packed.EACH;

        private final Packed steps = new Packed(MOST_STATES * MOST_STEPS);
        private final Packed moves = new Packed(MOST_STATES * MOVES_ROOM);
        private final int[] counts = new int[MOST_STATES];
        private final int[] labels = new int[MOST_STATES];
        private final int[] sums = new int[MOST_STATES];
        private int most = STATES_AT_FIRST;
        private int kept = 0;

        void allow(int states) {
            forget();
            most = Math.max(FEWEST_STATES, Math.min(states, MOST_STATES));
        }

        void forget() {
            kept = 0;
        }

        int count() {
            return kept;
        }

        boolean has(int state) {
            return state >= 0 && state < kept;
        }

        int labelOf(int state) {
            return has(state) ? labels[state] : 0;
        }

        int countOf(int state) {
            return has(state) ? counts[state] : 0;
        }

        int stepOf(int state, int i) {
            return steps.get(state * MOST_STEPS + i);
        }

        int moveOf(int state, int symbol) {
            return moves.get(state * MOVES_ROOM + symbol);
        }

        void know(int state, int symbol, int move) {
            moves.set(state * MOVES_ROOM + symbol, move);
        }

        /** The number of a state. If it is new and there is no room, all that were kept are forgotten. */
        int numberOf(Row row, int label) {
            int sum = sumOf(row, label);
            for (int state = 0; state < kept; state++) {
                if (sums[state] == sum && isSame(state, row, label)) {
                    return state;
                }
            }
            if (kept >= most) {
                forget();
            }
            add(row, label, sum);
            return kept - 1;
        }

        private static int sumOf(Row row, int label) {
            int sum = label;
            for (int i = 0; i < row.count(); i++) {
                sum = sum * 31 + row.get(i) + 1;
            }
            return sum;
        }

        private boolean isSame(int state, Row row, int label) {
            if (labels[state] != label || counts[state] != row.count()) {
                return false;
            }
            for (int i = 0; i < row.count(); i++) {
                if (stepOf(state, i) != row.get(i)) {
                    return false;
                }
            }
            return true;
        }

        private void add(Row row, int label, int sum) {
            counts[kept] = row.count();
            labels[kept] = label;
            sums[kept] = sum;
            for (int i = 0; i < row.count(); i++) {
                steps.set(kept * MOST_STEPS + i, row.get(i));
            }
            moves.wipe(kept * MOVES_ROOM, MOVES_ROOM);
            kept++;
        }
    }

    /**
     * States: what all ways together may still do, as one thing with a number. What is behind a place is known
     * only with the next byte, so that a move first follows the state's steps up to BYTES, then goes over.
     * A move is two more than the next state, times two, and one if the END was come to ahead of the byte: it
     * is never what says that a move is not known.
     */
    private static final class States {
        /** Goals. To find is to take the first END from the first beginning; once found, it is to take. */
        private static final int FIND = 0;
        private static final int TAKE_FIRST = 1;
        private static final int TAKE_LONGEST = 2;
        private static final int TAKE_WHOLE = 3;

        /** None, and a byte of each sort that an assertion can tell from the others: a 10, a WORD byte, any other. */
        private static final int[] BEFORE = {-1, 10, 97, 0};
        private static final int NO_BYTE = BYTE_VALUES;
        private static final int NOWHERE = -1;

        private final Program program;
        private final Subject subject;
        private final Tally tally;
        private final Kept kept = new Kept();
        private final Row walked = new Row();
        private final Row onward = new Row();
        private final Jobs jobs = new Jobs(2 * MOST_STEPS + 2);
        private int so = 0;

        States(Program program, Subject subject, Tally tally) {
            this.program = program;
            this.subject = subject;
            this.tally = tally;
        }

        void allow(int states) {
            kept.allow(states);
        }

        void forget() {
            kept.forget();
        }

        int run(int how, boolean longest, int from) {
            int state = firstState(goalOf(how, longest), subject.byteBehind(from - 1));
            int end = NONE;
            for (int place = from; place <= subject.length() && state != NOWHERE; place++) {
                int b = subject.byteBehind(place);
                int move = moveFrom(state, b == NONE ? NO_BYTE : b);
                if (move % 2 != 0) {
                    end = place;
                }
                state = move / 2 - 2;
            }
            return end;
        }

        private static int goalOf(int how, boolean longest) {
            if (how == HERE) {
                return longest ? TAKE_LONGEST : TAKE_FIRST;
            }
            return how == WHOLE ? TAKE_WHOLE : FIND;
        }

        private static int labelOf(int goal, int before) {
            int sort = 3;
            if (before == NONE) {
                sort = 0;
            } else if (before == NEW_LINE) {
                sort = 1;
            } else if (Subject.isWord(before)) {
                sort = 2;
            }
            return goal * BEFORE.length + sort;
        }

        /** Each move begins anew while it is to find, so that a state for this need not have the beginning. */
        private int firstState(int goal, int before) {
            onward.empty();
            if (goal != FIND) {
                onward.add(program.beginning());
            }
            return kept.numberOf(onward, labelOf(goal, before));
        }

        /** A move is not noted down if its state was forgotten to make room for the next one. */
        private int moveFrom(int state, int symbol) {
            tally.count();
            int known = kept.moveOf(state, symbol);
            if (known != Kept.UNKNOWN) {
                return known;
            }
            int goal = kept.labelOf(state) / BEFORE.length;
            boolean ended = goOver(state, symbol, goal);
            int goalThen = ended && goal == FIND ? TAKE_FIRST : goal;
            int keptBefore = kept.count();
            int next = NOWHERE;
            if (symbol != NO_BYTE && (onward.count() > 0 || goalThen == FIND)) {
                next = kept.numberOf(onward, labelOf(goalThen, symbol));
            }
            int move = (next + 2) * 2 + (ended ? 1 : 0);
            if (kept.count() >= keptBefore) {
                kept.know(state, symbol, move);
            }
            return move;
        }

        /** Whether the END was come to. What comes behind it in order is left out, but for the longest. */
        private boolean goOver(int state, int symbol, int goal) {
            int before = BEFORE[Math.floorMod(kept.labelOf(state), BEFORE.length)];
            so = Subject.whatIsSo(before, symbol == NO_BYTE ? NONE : symbol);
            walked.empty();
            onward.empty();
            boolean ended = false;
            int count = kept.countOf(state);
            for (int i = 0; i < count; i++) {
                if (follow(kept.stepOf(state, i), symbol, goal)) {
                    ended = true;
                    if (goal != TAKE_LONGEST) {
                        return true;
                    }
                }
            }
            if (goal == FIND) {
                ended = follow(program.beginning(), symbol, goal);
            }
            return ended;
        }

        private boolean follow(int first, int symbol, int goal) {
            boolean ended = false;
            jobs.drop();
            jobs.add(first);
            for (int turn = 0; turn < MOST_TURNS && !jobs.isEmpty(); turn++) {
                int step = jobs.take();
                tally.count();
                if (!walked.meets(step)) {
                    continue;
                }
                if (step == END) {
                    ended = goal != TAKE_WHOLE || symbol == NO_BYTE;
                    if (ended && goal != TAKE_LONGEST) {
                        return true;
                    }
                } else {
                    visit(step, symbol);
                }
            }
            return ended;
        }

        private void visit(int step, int symbol) {
            switch (program.kindOf(step)) {
                case BYTES:
                    if (program.takes(step, symbol) && onward.meets(program.firstOf(step))) {
                        onward.add(program.firstOf(step));
                    }
                    break;
                case EITHER:
                    jobs.add(program.secondOf(step));
                    jobs.add(program.firstOf(step));
                    break;
                case SAVE:
                    jobs.add(program.firstOf(step));
                    break;
                case ASSERT:
                    if ((so >> program.valueOf(step) & 1) != 0) {
                        jobs.add(program.firstOf(step));
                    }
                    break;
                default:
                    break;
            }
        }
    }
}
