/** Each promise of the document by hand: ordinary inputs, the edges that it names, and wrong inputs. */
public final class PromisesTest {
    private static final Checks checks = new Checks();
    private static final int BYTES = 1;
    private static final int EITHER = 2;
    private static final int SAVE = 3;
    private static final int ASSERT = 4;
    private static final int NEVER = 5;

    public static void main(String[] args) {
        aNewObject();
        lay();
        step();
        stepRefuses();
        begin();
        put();
        clear();
        matchHow();
        matchOrder();
        matchAsserts();
        matchRefuses();
        saved();
        savedLatestOnTheWay();
        ends();
        keep();
        isOneWayComesTwice();
        isOneWayBytes();
        isOneWaySixtyFour();
        over();
        checks.done("PromisesTest");
    }

    private static int bytes(int low, int high) {
        return low * 256 + high;
    }

    private static int one(int b) {
        return bytes(b, b);
    }

    private static void text(StepMachines x, String text) {
        for (int i = 0; i < text.length(); i++) {
            checks.same("put of a byte", x.put(text.charAt(i), 1), true);
        }
    }

    private static void matches(String what, StepMachines x, int how, boolean longest, int from, int due) {
        for (int machine = 0; machine < 3; machine++) {
            checks.same(what + ": match(" + how + ", " + longest + ", " + machine + ", " + from + ")",
                    x.match(how, longest, machine, from), due);
            checks.same(what + ": saved(1) then", x.saved(1), due);
        }
        if (how != 0 || !longest) {
            checks.same(what + ": ends(" + how + ", " + longest + ", " + from + ")", x.ends(how, longest, from), due);
        }
    }

    private static void aNewObject() {
        StepMachines x = new StepMachines();
        for (int k = -2; k < 23; k++) {
            checks.same("new: saved(" + k + ")", x.saved(k), StepMachines.NONE);
        }
        checks.same("new: isOneWay()", x.isOneWay(), true);
        checks.same("new: over()", x.over(), 0);
        checks.argument("new: match(1, false, 0, 1), the subject is empty", () -> x.match(1, false, 0, 1));
        matches("new, at its END", x, 0, false, 0, 0);
        matches("new, at its END", x, 0, true, 0, 0);
        matches("new, at its END", x, 2, false, 0, 0);
        checks.index("new: begin(1)", () -> x.begin(1));
        checks.index("new: step(1, ..), there is but the END", () -> x.step(1, NEVER, 0, 0, 0));
        x.begin(0);
        matches("new, begun with its only step", x, 1, false, 0, 0);
    }

    private static void lay() {
        StepMachines x = new StepMachines();
        x.lay(2);
        x.step(1, BYTES, one('a'), 0, 0);
        x.begin(1);
        text(x, "a");
        matches("a", x, 1, false, 0, 1);
        for (int n : new int[] {0, 201, -1, Integer.MAX_VALUE, Integer.MIN_VALUE}) {
            checks.argument("lay(" + n + ")", () -> x.lay(n));
        }
        matches("a refused lay() changes nothing", x, 1, false, 0, 1);
        x.lay(2);
        matches("a laid program begins with the END", x, 1, false, 0, 0);
        x.begin(1);
        matches("a laid step is NEVER", x, 0, false, 0, -1);
        x.lay(200);
        x.step(199, BYTES, one('a'), 0, 0);
        x.begin(199);
        matches("the last step of 200", x, 1, false, 0, 1);
        checks.index("step(200, ..) of 200", () -> x.step(200, NEVER, 0, 0, 0));
        x.lay(1);
        matches("lay(1)", x, 1, false, 0, 0);
        checks.index("step(1, ..) of 1", () -> x.step(1, NEVER, 0, 0, 0));
        x.lay(200);
        x.begin(199);
        matches("what was laid before is gone", x, 0, false, 0, -1);
    }

    private static void step() {
        StepMachines x = new StepMachines();
        x.lay(4);
        x.begin(1);
        x.put(0x00FF80L, 3);
        x.step(1, BYTES, bytes(0, 0), 0, -7);
        matches("byte 0", x, 1, false, 0, 1);
        matches("byte 0", x, 1, false, 1, -1);
        x.step(1, BYTES, bytes(255, 255), 0, 999);
        matches("byte 255", x, 1, false, 0, -1);
        matches("byte 255", x, 1, false, 1, 2);
        x.step(1, BYTES, bytes(128, 254), 0, 0);
        matches("bytes 128 to 254", x, 0, false, 0, 3);
        x.step(1, BYTES, bytes(0, 255), 2, 0);
        x.step(2, EITHER, -99, 3, 0);
        x.step(3, BYTES, bytes(255, 255), 0, 0);
        matches("any, then perhaps 255", x, 1, false, 0, 2);
        matches("any, then perhaps 255", x, 1, false, 1, 2);
        x.step(2, SAVE, 19, 0, -1);
        matches("any, then a SAVE", x, 1, false, 1, 2);
        checks.same("saved(19)", x.match(1, false, 1, 1) == 2 ? x.saved(19) : -9, 2);
        x.step(2, ASSERT, 1, 0, -1);
        matches("any, then none behind", x, 0, false, 0, 3);
        x.step(2, NEVER, 12345, -1, 77777);
        matches("any, then NEVER", x, 0, false, 0, -1);
    }

    private static void stepRefuses() {
        StepMachines x = new StepMachines();
        x.lay(3);
        x.step(1, BYTES, one('a'), 0, 0);
        x.begin(1);
        text(x, "a");
        for (int k : new int[] {0, 3, -1, Integer.MAX_VALUE, Integer.MIN_VALUE}) {
            checks.index("step(" + k + ", ..)", () -> x.step(k, BYTES, 0, 0, 0));
            checks.index("NEVER as step " + k, () -> x.step(k, NEVER, 0, 0, 0));
        }
        for (int next : new int[] {3, -1, Integer.MAX_VALUE, Integer.MIN_VALUE}) {
            checks.index("BYTES first " + next, () -> x.step(1, BYTES, 0, next, 0));
            checks.index("EITHER first " + next, () -> x.step(1, EITHER, 0, next, 0));
            checks.index("EITHER second " + next, () -> x.step(1, EITHER, 0, 0, next));
            checks.index("SAVE first " + next, () -> x.step(1, SAVE, 2, next, 0));
            checks.index("ASSERT first " + next, () -> x.step(1, ASSERT, 0, next, 0));
            checks.index("an index is looked at ahead of a value", () -> x.step(1, SAVE, 1, next, 0));
        }
        for (int kind : new int[] {0, 6, -1, Integer.MAX_VALUE, Integer.MIN_VALUE}) {
            checks.argument("kind " + kind, () -> x.step(1, kind, 0, 0, 0));
        }
        for (int value : new int[] {-1, 65536, bytes(98, 97), bytes(255, 254), bytes(1, 0), Integer.MIN_VALUE,
            Integer.MAX_VALUE}) {
            checks.argument("BYTES value " + value, () -> x.step(1, BYTES, value, 0, 0));
        }
        for (int value : new int[] {1, 0, -1, 20, Integer.MIN_VALUE, Integer.MAX_VALUE}) {
            checks.argument("SAVE value " + value, () -> x.step(1, SAVE, value, 0, 0));
        }
        for (int value : new int[] {-1, 6, Integer.MIN_VALUE, Integer.MAX_VALUE}) {
            checks.argument("ASSERT value " + value, () -> x.step(1, ASSERT, value, 0, 0));
        }
        matches("a refused step() changes nothing", x, 1, false, 0, 1);
    }

    private static void begin() {
        StepMachines x = new StepMachines();
        x.lay(3);
        x.step(1, BYTES, one('a'), 0, 0);
        x.step(2, BYTES, one('b'), 1, 0);
        text(x, "ba");
        matches("begun with 0", x, 1, false, 0, 0);
        x.begin(2);
        matches("begun with 2", x, 1, false, 0, 2);
        x.begin(1);
        matches("begun with 1", x, 1, false, 0, -1);
        matches("begun with 1", x, 1, false, 1, 2);
        for (int k : new int[] {3, -1, Integer.MAX_VALUE, Integer.MIN_VALUE}) {
            checks.index("begin(" + k + ")", () -> x.begin(k));
        }
        matches("a refused begin() changes nothing", x, 1, false, 1, 2);
        x.begin(0);
        matches("begun with 0 again", x, 1, false, 1, 1);
    }

    /** A program that takes all bytes tells the subject's length; one that takes one byte tells each byte. */
    private static void put() {
        StepMachines x = new StepMachines();
        x.lay(2);
        x.begin(1);
        checks.same("put(.., 0)", x.put(-1L, 0), true);
        checks.argument("none came", () -> x.match(1, false, 0, 1));
        checks.same("put(.., 9)", x.put(0L, 9), false);
        checks.same("put(.., -1)", x.put(0L, -1), false);
        checks.same("put(.., MAX)", x.put(0L, Integer.MAX_VALUE), false);
        checks.same("put(.., MIN)", x.put(0L, Integer.MIN_VALUE), false);
        checks.argument("still none came", () -> x.match(1, false, 0, 1));
        checks.same("put(.., 8)", x.put(0x8182838485868788L, 8), true);
        checks.same("put(.., 2)", x.put(0x1122334455667788L, 2), true);
        int[] due = {0x81, 0x82, 0x83, 0x84, 0x85, 0x86, 0x87, 0x88, 0x77, 0x88};
        for (int i = 0; i < due.length; i++) {
            x.step(1, BYTES, one(due[i]), 0, 0);
            matches("the byte at " + i, x, 1, false, i, i + 1);
        }
        checks.argument("no more came", () -> x.match(1, false, 0, 11));
        for (int i = 10; i < 194; i += 8) {
            checks.same("put of 8 at " + i, x.put(0L, 8), true);
        }
        checks.same("put of 7 at 194", x.put(0L, 7), false);
        checks.argument("none of the 7 came", () -> x.match(1, false, 0, 195));
        checks.same("put of 6 at 194", x.put(0x0000000000000AL, 6), true);
        checks.same("put of 1 at 200", x.put(0L, 1), false);
        checks.same("put of 0 at 200", x.put(0L, 0), true);
        checks.same("put of 9 at 200", x.put(0L, 9), false);
        x.step(1, BYTES, one(10), 0, 0);
        matches("the last byte", x, 0, false, 10, 200);
    }

    private static void clear() {
        StepMachines x = new StepMachines();
        x.lay(2);
        x.step(1, BYTES, bytes(0, 255), 0, 0);
        x.begin(1);
        text(x, "abc");
        matches("any byte", x, 0, false, 2, 3);
        x.clear();
        checks.same("saved(0) stays", x.saved(0), 2);
        matches("any byte, cleared", x, 0, false, 0, -1);
        checks.argument("place 1 after clear()", () -> x.match(0, false, 0, 1));
        text(x, "d");
        matches("any byte again", x, 0, false, 0, 1);
        x.clear();
        x.clear();
        for (int i = 0; i < 25; i++) {
            checks.same("25 times 8 come after clear()", x.put(0L, 8), true);
        }
    }

    /** Step 1 takes a's, the fewest first if lazy. */
    private static StepMachines aPlus(boolean lazy) {
        StepMachines x = new StepMachines();
        x.lay(3);
        x.step(1, BYTES, one('a'), 2, 0);
        x.step(2, EITHER, 0, lazy ? 0 : 1, lazy ? 1 : 0);
        x.begin(1);
        return x;
    }

    private static void matchHow() {
        StepMachines x = aPlus(false);
        text(x, "baabaaa");
        matches("a+", x, 0, false, 0, 3);
        checks.same("a+ begins", x.match(0, false, 0, 0) == 3 ? x.saved(0) : -9, 1);
        matches("a+", x, 0, true, 0, 3);
        matches("a+", x, 0, false, 3, 7);
        matches("a+", x, 1, false, 0, -1);
        matches("a+", x, 1, false, 1, 3);
        matches("a+", x, 2, false, 1, -1);
        matches("a+", x, 2, false, 4, 7);
        matches("a+", x, 2, true, 5, 7);
        matches("a+ at the end", x, 0, false, 7, -1);
        StepMachines y = aPlus(true);
        text(y, "baabaaa");
        matches("a+?", y, 0, false, 0, 2);
        matches("a+?", y, 0, true, 0, 3);
        matches("a+?", y, 1, false, 4, 5);
        matches("a+?", y, 1, true, 4, 7);
        matches("a+?, whole", y, 2, false, 4, 7);
        matches("a+?, whole", y, 2, true, 1, -1);
    }

    /** (a|ab)(c|bcd)(d*) over abcd, and the first place ahead of the longest. */
    private static void matchOrder() {
        StepMachines x = new StepMachines();
        x.lay(12);
        x.step(1, EITHER, 0, 2, 0);
        x.step(2, BYTES, one('d'), 1, 0);
        x.step(3, BYTES, one('c'), 1, 0);
        x.step(4, BYTES, one('b'), 5, 0);
        x.step(5, BYTES, one('c'), 6, 0);
        x.step(6, BYTES, one('d'), 1, 0);
        x.step(7, EITHER, 0, 3, 4);
        x.step(8, BYTES, one('a'), 7, 0);
        x.step(9, BYTES, one('a'), 10, 0);
        x.step(10, BYTES, one('b'), 7, 0);
        x.step(11, EITHER, 0, 8, 9);
        x.begin(11);
        text(x, "abcd");
        matches("(a|ab)(c|bcd)(d*)", x, 0, false, 0, 4);
        x.step(11, EITHER, 0, 9, 8);
        matches("(ab|a)(c|bcd)(d*)", x, 0, false, 0, 4);
        StepMachines y = new StepMachines();
        y.lay(6);
        y.step(1, EITHER, 0, 2, 3);
        y.step(2, BYTES, one('a'), 0, 0);
        y.step(3, BYTES, one('a'), 4, 0);
        y.step(4, BYTES, one('b'), 0, 0);
        y.begin(1);
        text(y, "zababb");
        matches("a|ab", y, 0, false, 0, 2);
        matches("a|ab", y, 0, true, 0, 3);
        y.step(1, EITHER, 0, 3, 2);
        matches("ab|a", y, 0, false, 0, 3);
        y.step(4, BYTES, one('b'), 5, 0);
        y.step(5, EITHER, 0, 4, 0);
        matches("ab+|a: the first place ahead of a longer way", y, 0, true, 0, 3);
        matches("ab+|a from the later place", y, 0, true, 2, 6);
        y.lay(4);
        y.step(1, EITHER, 0, 2, 3);
        y.step(2, EITHER, 0, 1, 1);
        y.step(3, BYTES, one('z'), 1, 0);
        y.begin(1);
        matches("only loops without a byte, and no END", y, 0, false, 0, -1);
        y.step(2, EITHER, 0, 1, 0);
        matches("a way never comes to a step again at a place", y, 1, false, 0, 0);
        matches("z's loop", y, 1, true, 0, 1);
    }

    private static void matchAsserts() {
        String text = "\na_Z -\n9";
        String[] due = {"100000000", "000000001", "110000010", "100000101", "010010011", "101101100"};
        StepMachines x = new StepMachines();
        x.lay(2);
        x.begin(1);
        text(x, text);
        for (int what = 0; what < 6; what++) {
            x.step(1, ASSERT, what, 0, 0);
            for (int place = 0; place <= text.length(); place++) {
                matches("assertion " + what + " at " + place, x, 1, false, place,
                        due[what].charAt(place) == '1' ? place : -1);
            }
        }
        x.clear();
        for (int what = 0; what < 6; what++) {
            x.step(1, ASSERT, what, 0, 0);
            matches("assertion " + what + " in an empty subject", x, 0, false, 0, what == 4 ? -1 : 0);
        }
        wordBytes();
    }

    private static void wordBytes() {
        String words = "0123456789ABCDEFGHIJKLMNOPQRSTUVWXYZabcdefghijklmnopqrstuvwxyz_";
        for (int part = 0; part < 32; part++) {
            StepMachines x = new StepMachines();
            x.lay(2);
            x.step(1, ASSERT, 4, 0, 0);
            x.begin(1);
            for (int i = 0; i < 8; i++) {
                x.clear();
                x.put(part * 8 + i, 1);
                matches("byte " + (part * 8 + i) + " as a WORD byte", x, 1, false, 0,
                        words.indexOf(part * 8 + i) >= 0 ? 0 : -1);
            }
        }
    }

    private static void matchRefuses() {
        StepMachines x = aPlus(false);
        text(x, "caa");
        checks.same("a+", x.match(0, false, 0, 0), 3);
        int[] wrong = {-1, 3, Integer.MAX_VALUE, Integer.MIN_VALUE};
        for (int w : wrong) {
            checks.argument("match how " + w, () -> x.match(w, false, 0, 0));
            checks.argument("match machine " + w, () -> x.match(0, false, w, 0));
            checks.argument("ends how " + w, () -> x.ends(w, false, 0));
        }
        for (int from : new int[] {-1, 4, Integer.MAX_VALUE, Integer.MIN_VALUE}) {
            for (int machine = 0; machine < 3; machine++) {
                int m = machine;
                checks.argument("match from " + from, () -> x.match(1, true, m, from));
            }
            checks.argument("ends from " + from, () -> x.ends(1, true, from));
        }
        checks.same("a refused match() leaves saved(0)", x.saved(0), 1);
        checks.same("a refused match() leaves saved(1)", x.saved(1), 3);
        matches("from the subject's length", x, 1, false, 3, -1);
    }

    /** (a)|(b) with PLACES 2 and 3, 18 and 19. */
    private static void saved() {
        StepMachines x = new StepMachines();
        x.lay(8);
        x.step(1, SAVE, 3, 0, 0);
        x.step(2, BYTES, one('a'), 1, 0);
        x.step(3, SAVE, 2, 2, 0);
        x.step(4, SAVE, 19, 0, 0);
        x.step(5, BYTES, one('b'), 4, 0);
        x.step(6, SAVE, 18, 5, 0);
        x.step(7, EITHER, 0, 3, 6);
        x.begin(7);
        text(x, "zab");
        for (int machine = 0; machine < 3; machine++) {
            checks.same("(a)|(b)", x.match(1, false, machine, 1), 2);
            places("(a) by " + machine, x, 1, 2, 1, 2, -1, -1);
            checks.same("(a)|(b)", x.match(1, false, machine, 2), 3);
            places("(b) by " + machine, x, 2, 3, -1, -1, 2, 3);
            checks.same("ends() saves nothing", x.ends(1, false, 1), 2);
            places("(b) still by " + machine, x, 2, 3, -1, -1, 2, 3);
            x.begin(0);
            x.begin(7);
            places("(b) still by " + machine, x, 2, 3, -1, -1, 2, 3);
            checks.same("(a)|(b) anywhere", x.match(0, true, machine, 0), 2);
            places("(a) anywhere by " + machine, x, 1, 2, 1, 2, -1, -1);
            checks.same("(a)|(b) nowhere", x.match(1, false, machine, 0), -1);
            places("nowhere by " + machine, x, -1, -1, -1, -1, -1, -1);
        }
        x.match(1, false, 0, 1);
        x.lay(1);
        x.clear();
        places("a new program and subject leave it", x, 1, 2, 1, 2, -1, -1);
        for (int k : new int[] {-1, 20, 21, Integer.MAX_VALUE, Integer.MIN_VALUE}) {
            checks.same("saved(" + k + ")", x.saved(k), -1);
        }
    }

    private static void places(String what, StepMachines x, int... due) {
        int[] k = {0, 1, 2, 3, 18, 19};
        for (int i = 0; i < k.length; i++) {
            checks.same(what + ": saved(" + k[i] + ")", x.saved(k[i]), due[i]);
        }
    }

    /** (?:(a)|b)*, longest or not: what was saved in an earlier round stays, what is saved again is the later. */
    private static void savedLatestOnTheWay() {
        StepMachines x = new StepMachines();
        x.lay(7);
        x.step(1, EITHER, 0, 2, 0);
        x.step(2, EITHER, 0, 3, 6);
        x.step(3, SAVE, 2, 4, 0);
        x.step(4, BYTES, one('a'), 5, 0);
        x.step(5, SAVE, 3, 1, 0);
        x.step(6, BYTES, one('b'), 1, 0);
        x.begin(1);
        text(x, "aabb");
        for (int machine = 0; machine < 3; machine++) {
            for (int round = 0; round < 4; round++) {
                checks.same("((a)|b)*", x.match(round / 2 == 0 ? 0 : 2, round % 2 == 0, machine, 0), 4);
                places("((a)|b)* by " + machine, x, 0, 4, 1, 2, -1, -1);
            }
        }
        checks.same("((a)|b)* is one way", x.isOneWay(), true);
    }

    private static void ends() {
        StepMachines x = aPlus(true);
        text(x, "baa");
        checks.same("a+? ends first", x.ends(0, false, 0), 2);
        checks.same("a+? ends here", x.ends(1, false, 1), 2);
        checks.same("a+? ends longest", x.ends(1, true, 1), 3);
        checks.same("a+? ends whole", x.ends(2, false, 1), 3);
        checks.same("a+? ends whole, longest", x.ends(2, true, 1), 3);
        checks.same("a+? ends not here", x.ends(2, true, 0), -1);
        checks.argument("longest with how 0", () -> x.ends(0, true, 0));
        checks.same("no match() yet", x.saved(0), -1);
        x.step(1, BYTES, one('b'), 2, 0);
        checks.same("states of the former program are not used", x.ends(0, false, 0), 1);
        x.begin(0);
        checks.same("nor of the former beginning", x.ends(1, true, 1), 1);
        x.lay(1);
        checks.same("nor behind lay()", x.ends(2, true, 1), -1);
        x.clear();
        checks.same("nor of the former subject", x.ends(2, true, 0), 0);
    }

    /** a, then 5 of a and b, then c: anywhere, this goes through many states. */
    private static void keep() {
        StepMachines x = new StepMachines();
        for (int states : new int[] {3, 65, 0, -4, Integer.MAX_VALUE, Integer.MIN_VALUE}) {
            checks.argument("keep(" + states + ")", () -> x.keep(states));
        }
        x.lay(10);
        for (int k = 1; k < 7; k++) {
            x.step(k, BYTES, bytes('a', 'b'), k - 1, 0);
        }
        x.step(1, BYTES, one('c'), 0, 0);
        x.step(7, BYTES, one('a'), 6, 0);
        x.begin(7);
        for (int i = 0; i < 180; i++) {
            x.put((i * i / 7 + i / 3) % 2 == 0 ? 'a' : 'b', 1);
        }
        text(x, "abbabbcbab");
        int due = 187;
        matches("a[ab]{5}c", x, 0, false, 0, due);
        for (int states : new int[] {4, 5, 8, 31, 32, 33, 63, 64, 4}) {
            checks.same("ends() ahead of keep(" + states + ")", x.ends(0, false, 0), due);
            x.keep(states);
            checks.same("ends() behind keep(" + states + ")", x.ends(0, false, 0), due);
            checks.same("ends() once more", x.ends(0, false, 0), due);
            checks.same("ends() with another how", x.ends(1, true, 180), due);
            checks.same("ends() with another how", x.ends(2, false, 180), -1);
            checks.argument("keep(3)", () -> x.keep(3));
            checks.argument("keep(65)", () -> x.keep(65));
        }
        checks.same("over()", x.over(), 0);
    }

    private static void isOneWayComesTwice() {
        StepMachines x = new StepMachines();
        x.lay(6);
        checks.same("begun with the END", x.isOneWay(), true);
        x.begin(1);
        checks.same("begun with NEVER", x.isOneWay(), true);
        x.step(1, EITHER, 0, 2, 3);
        checks.same("two NEVERs", x.isOneWay(), true);
        x.step(1, EITHER, 0, 2, 2);
        checks.same("the same NEVER twice", x.isOneWay(), false);
        x.step(1, EITHER, 0, 0, 0);
        checks.same("the END twice", x.isOneWay(), false);
        x.step(1, EITHER, 0, 1, 0);
        checks.same("the beginning twice", x.isOneWay(), false);
        x.step(1, EITHER, 0, 2, 3);
        x.step(2, ASSERT, 0, 4, 0);
        x.step(3, ASSERT, 1, 4, 0);
        checks.same("twice, whatever assertions say", x.isOneWay(), false);
        x.step(3, ASSERT, 1, 5, 0);
        checks.same("once each", x.isOneWay(), true);
        x.step(5, BYTES, one('a'), 3, 0);
        checks.same("again behind a byte", x.isOneWay(), true);
        x.step(3, EITHER, 0, 5, 3);
        checks.same("a loop without bytes", x.isOneWay(), false);
        x.begin(0);
        checks.same("a loop that is not come to", x.isOneWay(), true);
    }

    private static void isOneWayBytes() {
        StepMachines x = new StepMachines();
        x.lay(9);
        x.step(1, EITHER, 0, 2, 3);
        x.step(2, BYTES, bytes('a', 'c'), 4, 0);
        x.step(3, BYTES, bytes('d', 'f'), 5, 0);
        x.begin(1);
        checks.same("a-c or d-f", x.isOneWay(), true);
        x.step(3, BYTES, bytes('c', 'f'), 5, 0);
        checks.same("a-c or c-f, to other steps", x.isOneWay(), false);
        x.step(3, BYTES, bytes('c', 'f'), 4, 0);
        checks.same("a-c or c-f, to the same step", x.isOneWay(), true);
        x.step(1, EITHER, 0, 2, 6);
        x.step(6, SAVE, 2, 3, 0);
        checks.same("one has saved a PLACE", x.isOneWay(), false);
        x.step(1, EITHER, 0, 7, 6);
        x.step(7, SAVE, 2, 2, 0);
        checks.same("both have saved the same PLACE", x.isOneWay(), true);
        x.step(7, SAVE, 19, 2, 0);
        checks.same("they have saved others", x.isOneWay(), false);
        x.step(6, ASSERT, 3, 3, 0);
        x.step(7, ASSERT, 3, 2, 0);
        checks.same("both have passed the same assertion", x.isOneWay(), true);
        x.step(7, ASSERT, 5, 2, 0);
        checks.same("they have passed others", x.isOneWay(), false);
        x.step(1, EITHER, 0, 2, 6);
        x.step(6, EITHER, 0, 0, 3);
        checks.same("the END between them", x.isOneWay(), false);
        x.step(6, EITHER, 0, 3, 0);
        checks.same("the END behind both", x.isOneWay(), true);
        x.step(1, EITHER, 0, 0, 6);
        x.step(6, EITHER, 0, 3, 2);
        checks.same("the END ahead of both", x.isOneWay(), true);
        x.step(4, EITHER, 0, 8, 7);
        x.step(7, BYTES, one('x'), 0, 0);
        x.step(8, BYTES, one('x'), 1, 0);
        checks.same("of two minds behind a byte", x.isOneWay(), false);
        setsHaveNoOrder();
    }

    private static void setsHaveNoOrder() {
        StepMachines x = new StepMachines();
        x.lay(9);
        x.step(1, EITHER, 0, 2, 5);
        x.step(2, SAVE, 4, 3, 0);
        x.step(3, ASSERT, 2, 4, 0);
        x.step(4, BYTES, one('a'), 0, 0);
        x.step(5, ASSERT, 2, 6, 0);
        x.step(6, SAVE, 4, 7, 0);
        x.step(7, SAVE, 4, 8, 0);
        x.step(8, BYTES, one('a'), 0, 0);
        x.begin(1);
        checks.same("the same PLACES and assertions in another order", x.isOneWay(), true);
        text(x, "a");
        matches("either way", x, 2, false, 0, 1);
        checks.same("saved(4)", x.saved(4), 0);
    }

    /** A chain of n BYTES has n + 1 steps to look from, the END among them. */
    private static void isOneWaySixtyFour() {
        StepMachines x = new StepMachines();
        x.lay(200);
        for (int k = 1; k < 70; k++) {
            x.step(k, BYTES, one('a'), k - 1, 0);
        }
        for (int i = 0; i < 10; i++) {
            x.put(0x6161616161616161L, 8);
        }
        for (int n = 60; n < 70; n++) {
            x.begin(n);
            checks.same("a chain of " + n, x.isOneWay(), n < 64);
            matches("a chain of " + n, x, 1, false, 3, 3 + n);
        }
        x.step(63, BYTES, one('a'), 63, 0);
        x.begin(63);
        checks.same("a loop", x.isOneWay(), true);
        x.step(62, BYTES, one('b'), 61, 0);
        x.step(63, EITHER, 0, 62, 64);
        x.step(64, BYTES, one('a'), 63, 0);
        checks.same("the beginning counts once: 63 in all", x.isOneWay(), true);
        x.step(64, BYTES, one('a'), 65, 0);
        x.step(65, BYTES, one('a'), 63, 0);
        checks.same("64 in all", x.isOneWay(), true);
        x.step(65, BYTES, one('a'), 66, 0);
        x.step(66, BYTES, one('a'), 63, 0);
        checks.same("65 in all", x.isOneWay(), false);
    }

    private static void over() {
        StepMachines x = aPlus(false);
        text(x, "aaaa");
        for (int i = 0; i < 40; i++) {
            x.match(i % 3, i % 2 == 0, i % 3, i % 5);
            x.ends(1 + i % 2, i % 2 == 0, i % 5);
            checks.same("over()", x.over(), 0);
        }
    }
}
