import java.util.Random;
import java.util.stream.IntStream;

/** Many small programs, grown like patterns or thrown together, against all their ways taken one by one. */
public final class WaysTest {
    private static final String LETTERS = "ab_ \n";
    private static final Checks checks = new Checks();
    private static final Random random = new Random(20261115);
    private static int oneWay = 0;
    private static int notOneWay = 0;
    private static int found = 0;
    private static int skipped = 0;

    private static Renewed renewed;
    private static PlainWays plain;

    public static void main(String[] args) {
        int rounds = args.length > 0 ? Integer.parseInt(args[0]) : 6000;
        for (int round = 0; round < rounds; round++) {
            oneProgram(round);
        }
        checks.same("one-way programs are among them", oneWay > rounds / 10, true);
        checks.same("others are among them", notOneWay > rounds / 10, true);
        checks.same("matches are among them", found > rounds, true);
        System.out.println(oneWay + " one-way, " + notOneWay + " not, " + found + " matches, " + skipped + " skipped");
        checks.done("WaysTest");
    }

    private static void oneProgram(int round) {
        renewed = new Renewed();
        plain = renewed.plain;
        plain.size = 2 + random.nextInt(14);
        if (round % 3 == 0) {
            thrown();
        } else {
            grown(round % 3 == 1);
        }
        if (random.nextInt(3) == 0) {
            renewed.keep(4 + random.nextInt(random.nextBoolean() ? 2 : 61));
        }
        for (int i = 0; i < 2; i++) {
            newSubject();
            askAll("round " + round + " subject " + i);
            if (random.nextInt(3) == 0 && plain.size > 1) {
                int k = 1 + random.nextInt(plain.size - 1);
                int kind = 1 + random.nextInt(5);
                renewed.change(k, kind, valueOf(kind), anyStep(), anyStep());
            }
        }
        checks.same("round " + round + " over()", renewed.use(1).over(), 0);
    }

    private static int anyStep() {
        return random.nextInt(plain.size);
    }

    private static void lay(int k, int kind, int first, int second) {
        renewed.write(k, kind, valueOf(kind), first, second);
    }

    private static int valueOf(int kind) {
        switch (kind) {
            case 1: {
                int a = LETTERS.charAt(random.nextInt(LETTERS.length()));
                int b = random.nextBoolean() ? a : LETTERS.charAt(random.nextInt(LETTERS.length()));
                return Math.min(a, b) * 256 + Math.max(a, b);
            }
            case 3:
                return 2 + random.nextInt(random.nextBoolean() ? 3 : 18);
            case 4:
                return random.nextInt(6);
            default:
                return 0;
        }
    }

    private static void thrown() {
        for (int k = 1; k < plain.size; k++) {
            int[] kinds = {1, 1, 1, 1, 2, 2, 2, 3, 3, 4, 5};
            lay(k, kinds[random.nextInt(kinds.length)], anyStep(), anyStep());
        }
        plain.beginning = anyStep();
    }

    /** Each step goes on to a step that was laid before it, or loops back by an EITHER that is set later. */
    private static void grown(boolean bytesMostly) {
        for (int k = 1; k < plain.size; k++) {
            int pick = random.nextInt(10);
            int kind = pick < (bytesMostly ? 6 : 3) ? 1 : pick < 8 ? 2 : pick < 9 ? 3 : 4;
            int first = random.nextInt(4) == 0 ? random.nextInt(k) : k - 1;
            int second = random.nextInt(4) == 0 ? anyStep() : random.nextInt(k);
            if (kind == 2 && random.nextBoolean()) {
                lay(k, kind, second, first);
            } else {
                lay(k, kind, first, second);
            }
        }
        plain.beginning = plain.size - 1;
    }

    private static void newSubject() {
        int[] subject = new int[random.nextInt(9)];
        for (int i = 0; i < subject.length; i++) {
            subject[i] = LETTERS.charAt(random.nextInt(random.nextBoolean() ? 2 : LETTERS.length()));
        }
        renewed.subject(subject);
    }

    private static void askAll(String where) {
        boolean one = plain.isOneWay();
        if (one) {
            oneWay++;
        } else {
            notOneWay++;
        }
        boolean late = random.nextBoolean();
        if (late) {
            checks.same(where + " isOneWay()", renewed.use(1).isOneWay(), one);
        }
        for (int from = 0; from <= plain.subject.length; from++) {
            for (int how = 0; how < 3; how++) {
                ask(where, how, false, from);
                ask(where, how, true, from);
            }
        }
        checks.same(where + " isOneWay()", renewed.use(1).isOneWay(), one);
    }

    private static void ask(String where, int how, boolean longest, int from) {
        int[] due = plain.match(how, longest, from);
        if (due == PlainWays.TOO_MUCH) {
            skipped++;
            return;
        }
        int end = due == null ? -1 : due[1];
        String call = "(" + how + ", " + longest + ", " + from + ")";
        if (due != null) {
            found++;
        }
        int[] places = placesToLookAt();
        StepMachines x = renewed.use(3 * (1 + places.length) + 1);
        for (int machine = 0; machine < 3; machine++) {
            checks.same(where + " match by " + machine + call, x.match(how, longest, machine, from), end);
            for (int k : places) {
                checks.same(where + " saved(" + k + ") by " + machine + call, x.saved(k), due == null ? -1 : due[k]);
            }
        }
        if (how != 0 || !longest) {
            checks.same(where + " ends" + call, x.ends(how, longest, from), end);
        }
    }

    /** Where it begins and ends, what the program may save, and one PLACE more. */
    private static int[] placesToLookAt() {
        int extra = random.nextInt(20);
        return IntStream.range(0, 20).filter(k -> k < 2 || k == extra || plain.saves(k)).toArray();
    }
}
