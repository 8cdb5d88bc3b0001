/** The boundary cases that the document's terms name: steps and their kinds, ways, matches. */
public final class TermsEdgesTest {
    private static final Sentences sentences = new Sentences();
    private static final Checks checks = sentences.checks;
    private static final Asked asked = new Asked(checks);

    public static void main(String[] args) {
        programs();
        kinds();
        assertions();
        ways();
        matches();
        sentences.done("TermsEdgesTest");
    }

    private static void programs() {
        sentences.test("Terms", "A PROGRAM has 1 to 200 STEPS. (one)", TermsEdgesTest::oneStep);
        sentences.test("Terms", "A PROGRAM has 1 to 200 STEPS. (200)", TermsEdgesTest::twoHundredSteps);
        sentences.test("Terms", "Step 0 is the END", TermsEdgesTest::stepZeroIsTheEnd);
        sentences.test("The public face", "NONE = -1", () -> checks.same("NONE", StepMachines.NONE, -1));
    }

    private static void oneStep() {
        StepMachines x = new StepMachines();
        asked.begins("an empty subject", x, 2, true, 0, 0, 0);
        Laid.fill(x, 'a', 200);
        for (int from : new int[] {0, 1, 199, 200}) {
            asked.begins("a full subject", x, 0, false, from, from, from);
            asked.begins("a full subject, longest", x, 0, true, from, from, from);
            asked.begins("a full subject, here", x, 1, true, from, from, from);
            asked.ends("a full subject, to its end", x, 2, false, from, from == 200 ? 200 : -1);
        }
        checks.same("isOneWay()", x.isOneWay(), true);
        checks.same("over()", x.over(), 0);
    }

    /** A way that goes through all 200 steps: without bytes, and with 199 of them. */
    private static void twoHundredSteps() {
        int[][] saves = new int[199][];
        int[][] takes = new int[199][];
        for (int k = 1; k < 200; k++) {
            saves[k - 1] = Laid.save(2 + k % 18, k - 1);
            takes[k - 1] = Laid.bytes('a', k - 1);
        }
        StepMachines x = Laid.program(199, saves);
        asked.begins("200 steps, no byte", x, 2, false, 0, 0, 0);
        for (int k = 2; k < 20; k++) {
            asked.saves("200 steps, no byte", x, 1, true, 0, k, 0);
        }
        Laid.fill(x, 'a', 200);
        asked.begins("200 steps at place 200", x, 2, true, 200, 200, 200);
        StepMachines y = Laid.program(199, takes);
        Laid.fill(y, 'a', 198);
        asked.ends("200 steps, a byte too few", y, 0, true, 0, -1);
        y.put('a', 1);
        asked.begins("200 steps, 199 bytes", y, 2, false, 0, 0, 199);
        y.put('a', 1);
        asked.begins("200 steps, 199 bytes of 200", y, 0, false, 1, 1, 200);
        asked.ends("200 steps, from too late a place", y, 0, false, 2, -1);
        checks.same("over()", y.over(), 0);
    }

    /** It cannot be made another kind, and nothing goes on behind it. */
    private static void stepZeroIsTheEnd() {
        StepMachines x = Laid.with(Laid.program(0, Laid.bytes('a', 0)), "a");
        for (int kind = 1; kind <= 5; kind++) {
            int k = kind;
            checks.index("step 0 as kind " + kind, () -> x.step(0, k, 2, 0, 0));
        }
        asked.begins("begun with the END", x, 1, true, 0, 0, 0);
        asked.ends("begun with the END, to the subject's end", x, 2, false, 0, -1);
    }

    private static void kinds() {
        sentences.test("Terms", "1 BYTES: one byte, from LOW to HIGH", TermsEdgesTest::fromLowToHigh);
        sentences.test("Terms", "1 BYTES: one byte (there is none at the subject's end)",
                TermsEdgesTest::noByteAtTheEnd);
        sentences.test("Terms", "2 EITHER: its first next step, or its second", TermsEdgesTest::firstOrSecond);
        sentences.test("Terms", "3 SAVE: the place is saved as PLACE 2 .. 19", TermsEdgesTest::placesAreSaved);
        sentences.test("Terms", "5 NEVER: nothing goes on.", TermsEdgesTest::nothingGoesOn);
    }

    /** Every byte, and the byte on either side of LOW and HIGH. */
    private static void fromLowToHigh() {
        for (int b = 0; b < 256; b++) {
            StepMachines x = Laid.program(1, Laid.bytes(b, 0));
            for (int near = Math.max(0, b - 1); near <= Math.min(255, b + 1); near++) {
                x.clear();
                x.put(near, 1);
                asked.ends("byte " + near + " by " + b, x, 1, false, 0, near == b ? 1 : -1);
            }
            x.step(1, Laid.BYTES, Laid.range(b / 2, b), 0, 0);
            for (int near : new int[] {b / 2 - 1, b / 2, b, b + 1}) {
                x.clear();
                x.put(near & 255, 1);
                boolean in = (near & 255) >= b / 2 && (near & 255) <= b;
                asked.ends("byte " + (near & 255) + " by " + b / 2 + " .. " + b, x, 2, true, 0, in ? 1 : -1);
            }
        }
        StepMachines any = Laid.program(1, Laid.bytes(0, 255, 0));
        for (int b : new int[] {0, 1, 127, 128, 254, 255}) {
            any.clear();
            any.put(b, 1);
            asked.ends("byte " + b + " by 0 .. 255", any, 1, false, 0, 1);
        }
    }

    private static void noByteAtTheEnd() {
        StepMachines x = Laid.program(1, Laid.bytes(0, 255, 0));
        asked.ends("an empty subject", x, 0, false, 0, -1);
        for (int b : new int[] {0, 255}) {
            x.clear();
            x.put(b, 1);
            x.step(1, Laid.BYTES, 255, 0, 0);
            asked.ends("one byte", x, 1, false, 0, 1);
            asked.ends("none behind it", x, 0, false, 1, -1);
        }
        x.clear();
        Laid.fill(x, 'a', 200);
        asked.ends("the last of 200", x, 0, false, 199, 200);
        asked.ends("none behind 200", x, 0, false, 200, -1);
        x.clear();
        asked.ends("the bytes of a cleared subject", x, 1, false, 0, -1);
    }

    private static void firstOrSecond() {
        StepMachines x = Laid.program(1, Laid.either(2, 3), Laid.bytes('a', 0), Laid.bytes('b', 0));
        Laid.put(x, "abc");
        asked.ends("the first", x, 1, false, 0, 1);
        asked.ends("the second", x, 1, false, 1, 2);
        asked.ends("neither", x, 1, false, 2, -1);
        x.step(1, Laid.EITHER, 0, 2, 2);
        asked.ends("the same step twice", x, 1, true, 0, 1);
        asked.ends("the same step twice, neither", x, 1, true, 1, -1);
    }

    private static void placesAreSaved() {
        for (int k : new int[] {2, 19}) {
            StepMachines x = Laid.program(1, Laid.save(k, 0));
            asked.saves("an empty subject", x, 1, false, 0, k, 0);
            Laid.fill(x, 'a', 200);
            asked.saves("at 0 of 200", x, 1, false, 0, k, 0);
            asked.saves("at 199 of 200", x, 1, false, 199, k, 199);
            asked.saves("at 200 of 200", x, 2, true, 200, k, 200);
            asked.saves("anywhere, at 200 of 200", x, 0, false, 200, k, 200);
        }
    }

    private static void nothingGoesOn() {
        StepMachines x = Laid.program(1, Laid.either(2, 3), Laid.never(), Laid.bytes('a', 2));
        asked.ends("an empty subject", x, 0, false, 0, -1);
        Laid.put(x, "aa");
        asked.ends("NEVER behind EITHER and BYTES", x, 0, true, 0, -1);
        x.step(1, Laid.EITHER, 0, 2, 0);
        asked.ends("NEVER first, the END second", x, 0, true, 1, 1);
    }

    private static void assertions() {
        sentences.test("Terms", "0 none is before", () -> holds(0, "100000", true));
        sentences.test("Terms", "1 none is behind", () -> holds(1, "000001", true));
        sentences.test("Terms", "2 none or a 10 is before", () -> holds(2, "100100", true));
        sentences.test("Terms", "2 none or a 10 is before (9, 11, 13)", () -> byteBefore(2));
        sentences.test("Terms", "3 none or a 10 is behind", () -> holds(3, "001001", true));
        sentences.test("Terms", "3 none or a 10 is behind (9, 11, 13)", () -> byteBehind(3));
        sentences.test("Terms", "4 one of both is a WORD byte and the other one is not (or none)",
                () -> holds(4, "101011", false));
        sentences.test("Terms", "5 not so", () -> holds(5, "010100", true));
        sentences.test("Terms", "WORD bytes: 0 .. 9, A .. Z, a .. z, _", TermsEdgesTest::wordBytes);
        sentences.test("Terms", "if that is so between the bytes before and behind (on a way over bytes)",
                TermsEdgesTest::onAWayOverBytes);
    }

    /** At each place of "ab", a 10, " c"; and in an empty subject, where none is before and none behind. */
    private static void holds(int what, String due, boolean dueOfEmpty) {
        StepMachines x = Laid.program(1, Laid.so(what, 0));
        asked.ends("an empty subject", x, 1, false, 0, dueOfEmpty ? 0 : -1);
        Laid.put(x, "ab\n c");
        for (int place = 0; place < due.length(); place++) {
            asked.ends("at " + place, x, 1, false, place, due.charAt(place) == '1' ? place : -1);
        }
        asked.ends("the first anywhere", x, 0, false, 0, due.indexOf('1'));
    }

    /** Any byte, then what must be so, then any byte or the END: at each place but the first and the last one. */
    private static void onAWayOverBytes() {
        String[] due = {"100000", "000001", "100100", "001001", "101011", "010100"};
        for (int what = 0; what < 6; what++) {
            StepMachines x = Laid.with(Laid.program(1, Laid.bytes(0, 255, 2), Laid.so(what, 3),
                    Laid.either(4, 0), Laid.bytes(0, 255, 0)), "ab\n c");
            for (int place = 1; place <= 5; place++) {
                boolean so = due[what].charAt(place) == '1';
                int next = Math.min(5, place + 1);
                asked.ends("assertion " + what + " behind byte " + place, x, 1, false, place - 1, so ? next : -1);
            }
            x.step(3, Laid.EITHER, 0, 0, 4);
            for (int place = 1; place <= 5; place++) {
                boolean so = due[what].charAt(place) == '1';
                asked.ends("assertion " + what + " behind byte " + place, x, 1, false, place - 1, so ? place : -1);
            }
        }
    }

    private static void byteBefore(int what) {
        StepMachines x = Laid.program(1, Laid.so(what, 0));
        for (int b : new int[] {9, 10, 11, 13, 0, 255, 138}) {
            x.clear();
            x.put(b << 8 | 'a', 2);
            asked.ends(b + " is before", x, 1, false, 1, b == 10 ? 1 : -1);
            asked.ends("none is before", x, 1, false, 0, 0);
        }
    }

    private static void byteBehind(int what) {
        StepMachines x = Laid.program(1, Laid.so(what, 0));
        for (int b : new int[] {9, 10, 11, 13, 0, 255, 138}) {
            x.clear();
            x.put('a' << 8 | b, 2);
            asked.ends(b + " is behind", x, 1, false, 1, b == 10 ? 1 : -1);
            asked.ends("none is behind", x, 1, false, 2, 2);
        }
    }

    /** Each byte: beside none, beside a WORD byte, beside another. */
    private static void wordBytes() {
        String words = "0123456789ABCDEFGHIJKLMNOPQRSTUVWXYZabcdefghijklmnopqrstuvwxyz_";
        for (int b = 0; b < 256; b++) {
            boolean word = words.indexOf(b) >= 0;
            StepMachines x = Laid.program(1, Laid.so(4, 0));
            x.put((long) b << 24 | 'z' << 16 | b << 8 | ' ', 4);
            asked.ends("none, then " + b, x, 1, false, 0, word ? 0 : -1);
            asked.ends(b + ", then z", x, 1, false, 1, word ? -1 : 1);
            asked.ends("z, then " + b, x, 1, false, 2, word ? -1 : 2);
            asked.ends(b + ", then a space", x, 1, false, 3, word ? 3 : -1);
            x.step(1, Laid.ASSERT, 5, 0, 0);
            asked.ends("none, then " + b + ", not so", x, 1, false, 0, word ? -1 : 0);
            x.clear();
            x.put(b, 1);
            asked.ends(b + ", then none, not so", x, 1, false, 1, word ? -1 : 1);
        }
    }

    private static void ways() {
        sentences.test("Terms", "by EITHER the first one comes ahead of the second one, for all that is behind",
                TermsEdgesTest::firstAheadOfSecond);
        sentences.test("Terms", "by EITHER the first one comes ahead of the second one (99 of them in one another)",
                TermsEdgesTest::eitherInEither);
        sentences.test("Terms", "it never comes to a step again at the same place (it ends otherwise)",
                TermsEdgesTest::againAtTheSamePlace);
        sentences.test("Terms", "it never comes to a step again at the same place (a loop without a byte)",
                TermsEdgesTest::emptyRound);
        sentences.test("Terms", "it never comes to a step again at the same place (loops alone)",
                TermsEdgesTest::loopsAlone);
        sentences.test("Terms", "it never comes to a step again at the same place (at another place it may)",
                TermsEdgesTest::againAtAnotherPlace);
        sentences.test("Terms", "each saves what it saved latest at each PLACE", TermsEdgesTest::savedLatest);
        sentences.test("Terms", "each saves what it saved latest at each PLACE (and nothing of another way)",
                TermsEdgesTest::eachItsOwn);
    }

    /** (aa|a)| and |(aa|a): all of the first one's ways come ahead, the longer and the shorter ones. */
    private static void firstAheadOfSecond() {
        StepMachines x = Laid.program(1, Laid.either(2, 3), Laid.save(2, 4), Laid.save(3, 0), Laid.bytes('a', 5),
                Laid.either(6, 0), Laid.bytes('a', 0));
        Laid.put(x, "aaa");
        asked.ends("the first one's first", x, 1, false, 0, 2);
        asked.saves("the first one", x, 1, false, 0, 2, 0);
        asked.saves("the first one", x, 1, false, 0, 3, -1);
        asked.ends("the first one's second", x, 1, false, 2, 3);
        asked.ends("the second one", x, 1, false, 3, 3);
        asked.saves("the second one", x, 1, false, 3, 3, 3);
        x.step(1, Laid.EITHER, 0, 3, 2);
        asked.ends("the second one is now the first", x, 1, false, 0, 0);
        asked.ends("but not the longest", x, 1, true, 0, 2);
    }

    /** 99 EITHERs, each the first one of that ahead of it; the second ones take a byte of their own, or all a 7. */
    private static void eitherInEither() {
        for (int same = 0; same < 2; same++) {
            int[][] steps = new int[199][];
            for (int i = 1; i <= 99; i++) {
                steps[i - 1] = Laid.bytes(same == 1 ? 7 : i, 199);
                steps[98 + i] = Laid.either(i == 99 ? 99 : 100 + i, i == 99 ? 0 : i);
            }
            steps[198] = Laid.save(2, 0);
            StepMachines x = Laid.program(100, steps);
            for (int b : new int[] {1, 2, 7, 50, 96, 97, 98, 99}) {
                x.clear();
                x.put(b, 1);
                boolean taken = same == 0 || b == 7;
                boolean first = b == (same == 0 ? 99 : 7);
                asked.ends("byte " + b + ", longest", x, 1, true, 0, taken ? 1 : 0);
                asked.ends("byte " + b + ", to the subject's end", x, 2, false, 0, taken ? 1 : -1);
                asked.ends("byte " + b + ", the END is second of all", x, 1, false, 0, first ? 1 : 0);
            }
        }
    }

    /** Step 1 leads to itself, first or second: that is no way, and the other one is. */
    private static void againAtTheSamePlace() {
        StepMachines x = Laid.with(Laid.program(1, Laid.either(1, 0)), "a");
        asked.begins("itself first", x, 1, false, 0, 0, 0);
        x.step(1, Laid.EITHER, 0, 0, 1);
        asked.begins("itself second", x, 1, true, 1, 1, 1);
        Laid.lay(x, 1, Laid.save(2, 2), Laid.so(0, 3), Laid.either(1, 0));
        asked.begins("by SAVE and ASSERT to itself", x, 1, false, 0, 0, 0);
        asked.saves("by SAVE and ASSERT to itself", x, 1, false, 0, 2, 0);
        asked.ends("by SAVE and ASSERT to itself", x, 1, false, 1, -1);
    }

    /** (a|)*, with SAVEs round the group: a round without a byte comes to the loop again, and is no way. */
    private static void emptyRound() {
        StepMachines x = Laid.program(1, Laid.either(2, 0), Laid.save(2, 3), Laid.either(4, 5), Laid.bytes('a', 5),
                Laid.save(3, 1));
        asked.begins("no round", x, 2, false, 0, 0, 0);
        asked.saves("no round", x, 1, false, 0, 2, -1);
        asked.saves("no round", x, 1, true, 0, 3, -1);
        Laid.put(x, "aa");
        asked.begins("two rounds", x, 2, false, 0, 0, 2);
        asked.saves("two rounds, no third", x, 1, false, 0, 2, 1);
        asked.saves("two rounds, no third", x, 1, false, 0, 3, 2);
        asked.saves("behind all", x, 1, false, 2, 2, -1);
    }

    private static void loopsAlone() {
        StepMachines x = Laid.program(1, Laid.either(2, 3), Laid.either(1, 3), Laid.either(2, 1));
        asked.ends("an empty subject", x, 0, false, 0, -1);
        Laid.fill(x, 'a', 200);
        asked.ends("a full subject", x, 0, true, 0, -1);
        asked.ends("a full subject", x, 2, false, 200, -1);
        Laid.lay(x, 1, Laid.save(2, 1));
        asked.ends("a SAVE that leads to itself", x, 0, false, 0, -1);
        Laid.lay(x, 1, Laid.so(5, 1));
        asked.ends("an ASSERT that leads to itself", x, 0, false, 0, -1);
        checks.same("over()", x.over(), 0);
    }

    private static void againAtAnotherPlace() {
        StepMachines x = Laid.program(1, Laid.either(2, 0), Laid.bytes('a', 1));
        Laid.fill(x, 'a', 200);
        asked.begins("200 times the same two steps", x, 2, false, 0, 0, 200);
        x.step(1, Laid.EITHER, 0, 0, 2);
        asked.begins("the END first", x, 1, false, 0, 0, 0);
        asked.begins("the END first, longest", x, 1, true, 0, 0, 200);
    }

    private static void savedLatest() {
        StepMachines x = Laid.program(1, Laid.save(2, 2), Laid.bytes('a', 3), Laid.either(1, 4), Laid.save(2, 5),
                Laid.either(6, 0), Laid.bytes('b', 0));
        Laid.put(x, "aab");
        asked.saves("saved three times", x, 1, false, 0, 2, 2);
        Laid.lay(x, 1, Laid.either(2, 3), Laid.save(2, 4), Laid.save(3, 0), Laid.bytes('b', 0));
        asked.saves("saved on a way that came to nothing", x, 1, false, 0, 2, -1);
        asked.saves("saved on the way behind it", x, 1, false, 0, 3, 0);
        Laid.lay(x, 1, Laid.save(2, 2), Laid.bytes('a', 3), Laid.either(4, 0), Laid.save(2, 5), Laid.bytes('b', 0));
        asked.saves("saved again on a way that came to nothing", x, 1, false, 0, 2, 0);
        asked.saves("saved again on the way", x, 1, false, 1, 2, 2);
    }

    /** The first way is come to the second one's step when that one leaves it, and goes no further. */
    private static void eachItsOwn() {
        StepMachines x = Laid.program(1, Laid.either(2, 3), Laid.save(2, 4), Laid.save(3, 5), Laid.bytes('a', 5),
                Laid.bytes('a', 0));
        Laid.put(x, "a");
        asked.saves("of the first way", x, 1, false, 0, 2, -1);
        asked.saves("of the second way", x, 1, false, 0, 3, 0);
        Laid.put(x, "a");
        asked.saves("of the first way, over two bytes", x, 1, false, 0, 2, 0);
        asked.saves("of the second way, over one byte", x, 1, false, 0, 3, -1);
    }

    private static void matches() {
        sentences.test("Terms", "0 from the first place from there on from which there is a way",
                TermsEdgesTest::fromTheFirstPlace);
        sentences.test("Terms", "0 from the first place from there on from which there is a way (with longest)",
                TermsEdgesTest::aLaterPlaceIsLonger);
        sentences.test("Terms", "1 from that place", TermsEdgesTest::fromThatPlace);
        sentences.test("Terms", "2 from that place, ways that are at the END at the subject's end alone",
                TermsEdgesTest::toTheSubjectsEnd);
        sentences.test("Terms", "It is the first way in order", TermsEdgesTest::theFirstWay);
        sentences.test("Terms", "with longest, of those that are at the END last the first",
                TermsEdgesTest::theLongestWay);
    }

    private static void fromTheFirstPlace() {
        StepMachines x = Laid.with(Laid.many('a'), "baabaaab");
        asked.begins("behind a b", x, 0, false, 0, 1, 3);
        asked.begins("at it", x, 0, false, 1, 1, 3);
        asked.begins("a longer one is later", x, 0, true, 0, 1, 3);
        asked.begins("within it", x, 0, false, 2, 2, 3);
        asked.begins("the next", x, 0, false, 3, 4, 7);
        asked.begins("from the last byte", x, 0, false, 7, -1, -1);
        asked.begins("from the subject's end", x, 0, false, 8, -1, -1);
        x.step(1, Laid.EITHER, 0, 2, 0);
        x.step(2, Laid.BYTES, Laid.one('a'), 1, 0);
        asked.begins("a way of no byte", x, 0, false, 0, 0, 0);
        asked.begins("a way of no byte at the subject's end", x, 0, true, 8, 8, 8);
        x.clear();
        Laid.fill(x, 'b', 199);
        x.put('a', 1);
        Laid.lay(x, 1, Laid.bytes('a', 0));
        asked.begins("the last of 200 places with a byte", x, 0, false, 0, 199, 200);
        Laid.lay(x, 1, Laid.so(1, 0));
        asked.begins("the last of 201 places", x, 0, true, 0, 200, 200);
    }

    /** ab or bcd: when the first way ends, one from a later place is on its way. */
    private static void aLaterPlaceIsLonger() {
        StepMachines x = Laid.program(1, Laid.either(2, 4), Laid.bytes('a', 3), Laid.bytes('b', 0),
                Laid.bytes('b', 5), Laid.bytes('c', 6), Laid.bytes('d', 0));
        Laid.put(x, "abcd");
        asked.begins("longest", x, 0, true, 0, 0, 2);
        asked.begins("not longest", x, 0, false, 0, 0, 2);
        asked.begins("from the later place", x, 0, true, 1, 1, 4);
        asked.begins("behind both", x, 0, true, 2, -1, -1);
        x.step(6, Laid.BYTES, Laid.one('x'), 0, 0);
        asked.begins("the later one comes to nothing", x, 0, true, 0, 0, 2);
        x.step(3, Laid.BYTES, Laid.one('x'), 0, 0);
        x.step(6, Laid.BYTES, Laid.one('d'), 0, 0);
        asked.begins("the first one comes to nothing", x, 0, true, 0, 1, 4);
    }

    private static void fromThatPlace() {
        StepMachines x = Laid.with(Laid.many('a'), "baab");
        int[] due = {-1, 3, 3, -1, -1};
        for (int from = 0; from < due.length; from++) {
            asked.begins("from " + from, x, 1, false, from, due[from] < 0 ? -1 : from, due[from]);
            asked.begins("from " + from, x, 1, true, from, due[from] < 0 ? -1 : from, due[from]);
        }
    }

    private static void toTheSubjectsEnd() {
        StepMachines x = Laid.program(1, Laid.bytes('a', 2), Laid.either(0, 1));
        Laid.put(x, "aabaa");
        int[] due = {-1, -1, -1, 5, 5, -1};
        for (int from = 0; from < due.length; from++) {
            asked.begins("from " + from, x, 2, false, from, due[from] < 0 ? -1 : from, due[from]);
            asked.begins("from " + from, x, 2, true, from, due[from] < 0 ? -1 : from, due[from]);
        }
        asked.begins("the first way is shorter", x, 1, false, 3, 3, 4);
        Laid.lay(x, 1, Laid.either(2, 3), Laid.save(2, 4), Laid.save(3, 4), Laid.either(0, 5), Laid.bytes('a', 4));
        asked.saves("of such ways the first", x, 2, false, 4, 2, 4);
        asked.saves("of such ways the first", x, 2, true, 4, 3, -1);
        asked.begins("a way of no byte at the subject's end", x, 2, false, 5, 5, 5);
    }

    private static void theFirstWay() {
        StepMachines x = Laid.program(1, Laid.either(2, 3), Laid.bytes('a', 0), Laid.bytes('a', 4),
                Laid.bytes('a', 0));
        Laid.put(x, "aa");
        asked.ends("a shorter one first", x, 1, false, 0, 1);
        asked.ends("to the subject's end there is but the second", x, 2, false, 0, 2);
        x.step(1, Laid.EITHER, 0, 3, 2);
        asked.ends("a longer one first", x, 1, false, 0, 2);
        asked.ends("the longer one does not go on", x, 1, false, 1, 2);
    }

    /** Two ways end last: one by PLACE 2, one by PLACE 3; the first of them counts, and a shorter one not. */
    private static void theLongestWay() {
        StepMachines x = Laid.program(1, Laid.either(0, 2), Laid.either(3, 4), Laid.save(2, 5), Laid.save(3, 6),
                Laid.bytes('a', 0), Laid.bytes('a', 0));
        Laid.put(x, "a");
        asked.begins("not longest", x, 1, false, 0, 0, 0);
        asked.begins("longest", x, 1, true, 0, 0, 1);
        asked.saves("the first of two", x, 1, true, 0, 2, 0);
        asked.saves("the first of two", x, 1, true, 0, 3, -1);
        asked.begins("no longer one", x, 1, true, 1, 1, 1);
        x.step(2, Laid.EITHER, 0, 4, 3);
        asked.saves("the other is the first", x, 1, true, 0, 2, -1);
        asked.saves("the other is the first", x, 1, true, 0, 3, 0);
        asked.saves("the other is the first", x, 0, true, 0, 3, 0);
    }
}
