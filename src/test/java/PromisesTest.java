/** Each promise of the document by itself: ordinary inputs, the edges it names, and wrong inputs. */
public final class PromisesTest {
    private static final int TINTS = 0;
    private static final int TRIMS = 1;
    private static final int LEVELS = 2;
    private static final int KEYS = 3;

    private static final int DONE = 0;
    private static final int BAD = 1;
    private static final int MISSING = 2;
    private static final int OUTSIDE = 3;
    private static final int NEGATIVE = 4;
    private static final int LARGE = 5;
    private static final int FULL = 6;

    private static final int MIN = Integer.MIN_VALUE;
    private static final int MAX = Integer.MAX_VALUE;
    private static final int[] NO_BANKS = {-1, 6, MIN, MAX};
    private static final int[] NO_STRIPS = {-1, 4, MIN, MAX};

    private static final Due due = new Due();

    public static void main(String[] args) {
        newObject();
        hang();
        strike();
        share();
        size();
        get();
        set();
        patch();
        patchBetweenKinds();
        ripple();
        rippleEdges();
        probe();
        poke();
        shown();
        shownOrder();
        lit();
        fade();
        fadeFull();
        tick();
        tickDrops();
        tickOrder();
        sheet();
        cell();
        tear();
        tearRefusals();
        draw();
        drawRefusals();
        status();
        count();
        countOfStrips();
        badComesFirst();
        due.finish();
    }

    private static LampLoft fullBank(int places) {
        LampLoft x = new LampLoft();
        for (int strip = 0; strip < 4; strip++) {
            x.hang(0, strip, places);
        }
        return x;
    }

    private static void newObject() {
        LampLoft x = new LampLoft();
        due.is("1: status()", x.status(), DONE);
        for (int what = -1; what <= 11; what++) {
            due.counts("1: new", x, what, 0);
        }
        int refusals = 0;
        for (int bank = 0; bank < 6; bank++) {
            for (int strip = 0; strip < 4; strip++) {
                due.is("1: size(" + bank + ", " + strip + ")", x, x.size(bank, strip), 0, MISSING);
                refusals++;
            }
        }
        due.is("1: cell(0, 0)", x, x.cell(0, 0), 0, MISSING);
        due.counts("1: all missing", x, 0, refusals + 1);
        due.is("1: tick()", x, x.tick(), 0, DONE);
    }

    private static void hang() {
        LampLoft x = new LampLoft();
        due.is("2: hang(5, 3, 24)", x, x.hang(5, 3, 24), 24, DONE);
        due.is("2: size(5, 3)", x, x.size(5, 3), 24, DONE);
        for (int i = 0; i < 24; i++) {
            due.is("2: get(5, 3, " + i + ")", x, x.get(5, 3, i), 0, DONE);
        }
        x.set(5, 3, 23, 1);
        due.is("2: hang(5, 3, 25)", x, x.hang(5, 3, 25), 0, LARGE);
        due.is("2: hang(5, 3, MAX)", x, x.hang(5, 3, MAX), 0, LARGE);
        due.counts("2: LARGE does not count", x, 2, 0);
        due.is("2: hang(5, 3, -1)", x, x.hang(5, 3, -1), 0, NEGATIVE);
        due.is("2: hang(5, 3, MIN)", x, x.hang(5, 3, MIN), 0, NEGATIVE);
        due.counts("2: NEGATIVE counts", x, 2, 2);
        due.is("2: the strip stays", x, x.get(5, 3, 23), 1, DONE);
        due.is("2: hang(5, 3, 24) anew", x, x.hang(5, 3, 24), 24, DONE);
        due.is("2: a new strip has 0", x, x.get(5, 3, 23), 0, DONE);
        due.is("2: hang(5, 3, 0)", x, x.hang(5, 3, 0), 0, DONE);
        due.is("2: size of none", x, x.size(5, 3), 0, DONE);
        due.is("2: no place in it", x, x.get(5, 3, 0), 0, OUTSIDE);
        due.counts("2: an empty strip is there", x, 7, 1);

        x.hang(0, LEVELS, 2);
        x.set(0, LEVELS, 1, 77);
        x.share(1, LEVELS, 0);
        x.hang(0, LEVELS, 3);
        due.is("2: the other bank keeps its strip", x, x.get(1, LEVELS, 1), 77, DONE);
        due.is("2: and its size", x, x.size(1, LEVELS), 2, DONE);
        due.is("2: the new one is apart", x, x.get(0, LEVELS, 1), 0, DONE);
        x.set(0, LEVELS, 0, 5);
        due.is("2: SET apart, too", x, x.get(1, LEVELS, 0), 0, DONE);
        due.counts("2: hang SETS none", x, 8, 3);

        for (int b : NO_BANKS) {
            due.is("2: hang(" + b + ", 0, 1)", x, x.hang(b, 0, 1), 0, BAD);
            due.is("2: hang(" + b + ", 0, -1) is BAD first", x, x.hang(b, 0, -1), 0, BAD);
            due.is("2: hang(" + b + ", 0, 25) is BAD first", x, x.hang(b, 0, 25), 0, BAD);
        }
        for (int s : NO_STRIPS) {
            due.is("2: hang(0, " + s + ", 1)", x, x.hang(0, s, 1), 0, BAD);
        }
        due.counts("2: BAD does not count", x, 2, 2);
    }

    private static void strike() {
        LampLoft x = new LampLoft();
        due.is("3: strike(0, 0) of none", x, x.strike(0, 0), 0, DONE);
        due.counts("3: that is no refusal", x, 0, 0);
        x.hang(0, TRIMS, 2);
        x.share(3, TRIMS, 0);
        x.set(0, TRIMS, 1, -9);
        due.is("3: strike(0, 1)", x, x.strike(0, TRIMS), 1, DONE);
        due.is("3: it is MISSING then", x, x.size(0, TRIMS), 0, MISSING);
        due.is("3: the other bank keeps it", x, x.get(3, TRIMS, 1), -9, DONE);
        due.is("3: strike(0, 1) again", x, x.strike(0, TRIMS), 0, DONE);
        x.hang(0, KEYS, 0);
        due.is("3: strike an empty strip", x, x.strike(0, KEYS), 1, DONE);
        for (int b : NO_BANKS) {
            due.is("3: strike(" + b + ", 1)", x, x.strike(b, TRIMS), 0, BAD);
        }
        for (int s : NO_STRIPS) {
            due.is("3: strike(3, " + s + ")", x, x.strike(3, s), 0, BAD);
        }
        due.counts("3: BAD does nothing", x, 7, 1);
    }

    private static void share() {
        LampLoft x = new LampLoft();
        due.is("4: share(0, 0, 1) of none", x, x.share(0, 0, 1), 0, DONE);
        due.counts("4: that is no refusal", x, 0, 0);
        x.hang(1, LEVELS, 3);
        x.hang(2, LEVELS, 1);
        due.is("4: share(2, 2, 1)", x, x.share(2, LEVELS, 1), 1, DONE);
        due.is("4: the size is the other's", x, x.size(2, LEVELS), 3, DONE);
        x.set(2, LEVELS, 2, 600);
        due.is("4: SET by one, there for all", x, x.get(1, LEVELS, 2), 600, DONE);
        x.set(1, LEVELS, 0, 700);
        due.is("4: and the other way", x, x.get(2, LEVELS, 0), 700, DONE);
        due.is("4: share(3, 2, 2) goes on", x, x.share(3, LEVELS, 2), 1, DONE);
        due.is("4: a third one has it", x, x.get(3, LEVELS, 0), 700, DONE);
        due.is("4: share(3, 2, 3) with itself", x, x.share(3, LEVELS, 3), 1, DONE);
        due.is("4: nothing changes by that", x, x.get(3, LEVELS, 0), 700, DONE);
        due.counts("4: a SHARED one as often as banks have it", x, 7, 3);
        due.is("4: share(1, 2, 5) makes it MISSING", x, x.share(1, LEVELS, 5), 0, DONE);
        due.is("4: it is", x, x.size(1, LEVELS), 0, MISSING);
        due.is("4: the others keep it", x, x.get(2, LEVELS, 0), 700, DONE);
        due.is("4: other strips are not shared", x, x.size(3, TRIMS), 0, MISSING);
        for (int b : NO_BANKS) {
            due.is("4: share(" + b + ", 2, 2)", x, x.share(b, LEVELS, 2), 0, BAD);
            due.is("4: share(2, 2, " + b + ")", x, x.share(2, LEVELS, b), 0, BAD);
        }
        for (int s : NO_STRIPS) {
            due.is("4: share(2, " + s + ", 1)", x, x.share(2, s, 1), 0, BAD);
        }
        due.is("4: BAD changes nothing", x, x.get(2, LEVELS, 0), 700, DONE);
    }

    private static void size() {
        LampLoft x = new LampLoft();
        x.hang(4, KEYS, 7);
        due.is("5: size(4, 3)", x, x.size(4, KEYS), 7, DONE);
        due.is("5: size(3, 3)", x, x.size(3, KEYS), 0, MISSING);
        due.counts("5: a refused MEASURE", x, 0, 1);
        for (int b : NO_BANKS) {
            due.is("5: size(" + b + ", 3)", x, x.size(b, KEYS), 0, BAD);
        }
        for (int s : NO_STRIPS) {
            due.is("5: size(4, " + s + ")", x, x.size(4, s), 0, BAD);
        }
        due.counts("5: BAD does not count", x, 0, 1);
    }

    private static void get() {
        LampLoft x = new LampLoft();
        x.hang(2, TINTS, 2);
        x.set(2, TINTS, 1, 65535);
        due.is("6: get(2, 0, 1)", x, x.get(2, TINTS, 1), 65535, DONE);
        due.is("6: get(2, 0, 2)", x, x.get(2, TINTS, 2), 0, OUTSIDE);
        due.is("6: get(2, 0, -1)", x, x.get(2, TINTS, -1), 0, OUTSIDE);
        due.is("6: get(2, 0, MIN)", x, x.get(2, TINTS, MIN), 0, OUTSIDE);
        due.is("6: get(2, 0, MAX)", x, x.get(2, TINTS, MAX), 0, OUTSIDE);
        due.is("6: get(2, 1, -1) is MISSING first", x, x.get(2, TRIMS, -1), 0, MISSING);
        due.counts("6: MISSING", x, 0, 1);
        due.counts("6: OUTSIDE", x, 1, 4);
        due.counts("6: a LOOK SETS none", x, 8, 1);
        for (int b : NO_BANKS) {
            due.is("6: get(" + b + ", 0, 1)", x, x.get(b, TINTS, 1), 0, BAD);
        }
        for (int s : NO_STRIPS) {
            due.is("6: get(2, " + s + ", 1)", x, x.get(2, s, 1), 0, BAD);
        }
        due.counts("6: BAD does not count", x, 0, 1);
    }

    private static void set() {
        int[] given = {0, 1, -1, 2, 32767, 32768, -32768, -32769, 65535, 65536, 8000000, 8000001, -8000000, -8000001, MIN, MAX};
        int[][] stands = {
            {0, 1, 65535, 2, 32767, 32768, 32768, 32767, 65535, 0, 4608, 4609, 60928, 60927, 0, 65535},
            {0, 1, -1, 2, 32767, -32768, -32768, 32767, -1, 0, 4608, 4609, -4608, -4609, 0, -1},
            {0, 1, -1, 2, 32767, 32768, -32768, -32769, 65535, 65536, 8000000, 8000000, -8000000, -8000000, -8000000, 8000000},
            {0, 1, 1, 0, 1, 0, 0, 1, 1, 0, 0, 1, 0, 1, 0, 1},
        };
        LampLoft x = fullBank(2);
        for (int strip = 0; strip < 4; strip++) {
            int before = 0;
            for (int g = 0; g < given.length; g++) {
                String call = "7: set(0, " + strip + ", 1, " + given[g] + ")";
                due.is(call, x, x.set(0, strip, 1, given[g]), before, DONE);
                due.is(call + " stands", x, x.get(0, strip, 1), stands[strip][g], DONE);
                before = stands[strip][g];
            }
            due.is("7: the place beside stays", x, x.get(0, strip, 0), 0, DONE);
        }
        due.counts("7: each SET, also of the same", x, 8, 4 * given.length);
        due.is("7: set(0, 2, 2, 1)", x, x.set(0, LEVELS, 2, 1), 0, OUTSIDE);
        due.is("7: set(0, 2, -1, 1)", x, x.set(0, LEVELS, -1, 1), 0, OUTSIDE);
        due.is("7: set(1, 2, 0, 1)", x, x.set(1, LEVELS, 0, 1), 0, MISSING);
        due.counts("7: one refusal a call", x, 1, 2);
        due.counts("7: one refusal a call", x, 0, 1);
        for (int b : NO_BANKS) {
            due.is("7: set(" + b + ", 2, 0, 5)", x, x.set(b, LEVELS, 0, 5), 0, BAD);
        }
        for (int s : NO_STRIPS) {
            due.is("7: set(0, " + s + ", 0, 5)", x, x.set(0, s, 0, 5), 0, BAD);
        }
        due.counts("7: refused ones SET none", x, 8, 4 * given.length);
    }

    private static void patch() {
        LampLoft x = new LampLoft();
        x.hang(0, LEVELS, 3);
        x.hang(1, TINTS, 2);
        x.set(0, LEVELS, 2, -1);
        due.is("8: patch(0, 2, 1, 1, 8)", x, x.patch(0, 2, 1, 1, 8), -1, DONE);
        due.is("8: it becomes a TINT", x, x.get(1, TINTS, 1), 65535, DONE);
        due.is("8: the place beside stays", x, x.get(1, TINTS, 0), 0, DONE);
        due.is("8: patch(1, 1, 0, 0, 2)", x, x.patch(1, 1, 0, 0, 2), 65535, DONE);
        due.is("8: and a LEVEL", x, x.get(0, LEVELS, 0), 65535, DONE);
        due.is("8: patch to itself", x, x.patch(0, 2, 0, 2, 10), -1, DONE);
        due.counts("8: three are SET by it", x, 8, 4);

        due.is("8: refused LOOK, OUTSIDE", x, x.patch(0, 3, 1, 0, 8), 0, OUTSIDE);
        due.is("8: refused LOOK ahead of refused SET", x, x.patch(0, -1, 2, 0, 8), 0, OUTSIDE);
        due.counts("8: only the LOOK counts", x, 0, 0);
        due.is("8: refused LOOK, MISSING", x, x.patch(2, 0, 1, 9, 8), 0, MISSING);
        due.counts("8: only the LOOK counts", x, 1, 2);
        due.is("8: refused SET, OUTSIDE", x, x.patch(0, 2, 1, 2, 8), 0, OUTSIDE);
        due.is("8: refused SET, MISSING", x, x.patch(0, 2, 1, 2, 9), 0, MISSING);
        due.counts("8: MISSING", x, 0, 2);
        due.counts("8: OUTSIDE", x, 1, 3);
        due.counts("8: refused ones SET none", x, 8, 4);

        for (int b : NO_BANKS) {
            due.is("8: patch(" + b + ", 2, 1, 1, 8)", x, x.patch(b, 2, 1, 1, 8), 0, BAD);
            due.is("8: patch(0, 2, " + b + ", 1, 8)", x, x.patch(0, 2, b, 1, 8), 0, BAD);
            due.is("8: patch(0, 3, " + b + ", 1, 8) looks at nothing", x, x.patch(0, 3, b, 1, 8), 0, BAD);
        }
        for (int strips : new int[] {-1, 16, MIN, MAX}) {
            due.is("8: patch(0, 2, 1, 1, " + strips + ")", x, x.patch(0, 2, 1, 1, strips), 0, BAD);
        }
        due.counts("8: BAD does not count", x, 1, 3);
    }

    private static void patchBetweenKinds() {
        for (int strips = 0; strips < 16; strips++) {
            LampLoft x = fullBank(1);
            for (int strip = 0; strip < 4; strip++) {
                x.hang(1, strip, 1);
            }
            int lookedAt = strips / 4;
            x.set(0, lookedAt, 0, 40001);
            int number = new int[] {40001, -25535, 40001, 1}[lookedAt];
            due.is("8: patch(0, 0, 1, 0, " + strips + ")", x, x.patch(0, 0, 1, 0, strips), number, DONE);
            int[] becomes = {number & 65535, (short) number, number, number & 1};
            for (int strip = 0; strip < 4; strip++) {
                int want = strip == strips % 4 ? becomes[strip] : 0;
                due.is("8: get(1, " + strip + ", 0) behind " + strips, x, x.get(1, strip, 0), want, DONE);
            }
        }
    }

    private static void ripple() {
        LampLoft x = new LampLoft();
        x.hang(0, LEVELS, 5);
        due.is("9: ripple(0, 0, 2, 3, 10)", x, x.ripple(0, 0, 2, 3, 10), 3, DONE);
        int[] stands = {10, 0, 10, 0, 10};
        for (int i = 0; i < 5; i++) {
            due.is("9: get(0, 2, " + i + ")", x, x.get(0, LEVELS, i), stands[i], DONE);
        }
        due.is("9: ripple(0, 4, -3, 3, -4)", x, x.ripple(0, 4, -3, 3, -4), 2, OUTSIDE);
        due.is("9: what was done ahead stays", x, x.get(0, LEVELS, 4), 6, DONE);
        due.is("9: the second, too", x, x.get(0, LEVELS, 1), -4, DONE);
        due.is("9: ripple(0, 3, 0, 64, 5)", x, x.ripple(0, 3, 0, 64, 5), 64, DONE);
        due.is("9: 64 times the same place", x, x.get(0, LEVELS, 3), 320, DONE);
        due.counts("9: PLACES SET", x, 8, 3 + 2 + 64);
        due.counts("9: one refusal", x, 1, 1);
        due.is("9: ripple(0, 0, 1, 0, 5)", x, x.ripple(0, 0, 1, 0, 5), 0, DONE);
        due.is("9: ripple(1, 0, 1, 0, 5) looks at nothing", x, x.ripple(1, 0, 1, 0, 5), 0, DONE);
        due.is("9: ripple(1, 0, 1, 2, 5)", x, x.ripple(1, 0, 1, 2, 5), 0, MISSING);
        due.is("9: ripple(0, 5, -1, 2, 5)", x, x.ripple(0, 5, -1, 2, 5), 0, OUTSIDE);
        due.counts("9: MISSING", x, 0, 1);
        for (int b : NO_BANKS) {
            due.is("9: ripple(" + b + ", 0, 1, 1, 1)", x, x.ripple(b, 0, 1, 1, 1), 0, BAD);
        }
        for (int n : new int[] {-1, 65, MIN, MAX}) {
            due.is("9: ripple(0, 0, 0, " + n + ", 1)", x, x.ripple(0, 0, 0, n, 1), 0, BAD);
        }
        due.is("9: BAD does nothing", x, x.get(0, LEVELS, 0), 10, DONE);
    }

    private static void rippleEdges() {
        LampLoft x = new LampLoft();
        x.hang(0, LEVELS, 3);
        x.set(0, LEVELS, 0, 5);
        x.ripple(0, 0, 1, 1, MAX);
        due.is("9: no LEVEL above the highest", x, x.get(0, LEVELS, 0), 8000000, DONE);
        x.ripple(0, 0, 1, 1, MIN);
        due.is("9: a step counts as the nearest", x, x.get(0, LEVELS, 0), 0, DONE);
        x.ripple(0, 0, 1, 1, MIN);
        x.ripple(0, 0, 1, 1, MIN);
        due.is("9: no LEVEL below the lowest", x, x.get(0, LEVELS, 0), -8000000, DONE);
        x.ripple(0, 0, 1, 1, 8000001);
        due.is("9: 8000001 counts as 8000000", x, x.get(0, LEVELS, 0), 0, DONE);

        due.is("9: ripple(0, 0, MIN, 3, 1)", x, x.ripple(0, 0, MIN, 3, 1), 1, OUTSIDE);
        due.is("9: ripple(0, 2, 1 << 30, 5, 7)", x, x.ripple(0, 2, 1 << 30, 5, 7), 1, OUTSIDE);
        due.is("9: ripple(0, MAX, MIN, 2, 7)", x, x.ripple(0, MAX, MIN, 2, 7), 0, OUTSIDE);
        due.is("9: ripple(0, 1, MAX, 3, 7)", x, x.ripple(0, 1, MAX, 3, 7), 1, OUTSIDE);

        LampLoft y = new LampLoft();
        y.hang(0, LEVELS, 24);
        due.is("9: 24 places down", y, y.ripple(0, 23, -1, 64, 1), 24, OUTSIDE);
        for (int i = 0; i < 24; i++) {
            due.is("9: get(0, 2, " + i + ")", y, y.get(0, LEVELS, i), 1, DONE);
        }
        y.share(1, LEVELS, 0);
        due.is("9: a SHARED one", y, y.ripple(1, 0, 1, 24, 1), 24, DONE);
        due.is("9: stands for both", y, y.get(0, LEVELS, 23), 2, DONE);
    }

    private static void probe() {
        LampLoft x = new LampLoft();
        due.is("10: all MISSING", x, x.probe(0, 0), 1111, DONE);
        due.counts("10: each counts", x, 0, 4);
        for (int strip = 0; strip < 4; strip++) {
            x.hang(0, strip, strip + 1);
        }
        int[] digits = {0, 2, 22, 222, 2222};
        for (int i = 0; i < 5; i++) {
            due.is("10: probe(0, " + i + ")", x, x.probe(0, i), digits[i], DONE);
        }
        due.counts("10: each counts", x, 1, 1 + 2 + 3 + 4);
        due.is("10: probe(0, -1)", x, x.probe(0, -1), 2222, DONE);
        due.is("10: probe(0, MIN)", x, x.probe(0, MIN), 2222, DONE);
        due.is("10: probe(0, MAX)", x, x.probe(0, MAX), 2222, DONE);
        x.strike(0, TRIMS);
        due.is("10: TRIMS MISSING, TINTS OUTSIDE", x, x.probe(0, 1), 12, DONE);
        x.strike(0, KEYS);
        due.is("10: KEYS MISSING", x, x.probe(0, 2), 1012, DONE);
        due.counts("10: nothing is SET", x, 8, 0);
        for (int b : NO_BANKS) {
            due.is("10: probe(" + b + ", 0)", x, x.probe(b, 0), 0, BAD);
        }
        due.counts("10: BAD does not count", x, 0, 4 + 1 + 2);
    }

    private static void poke() {
        LampLoft x = new LampLoft();
        due.is("11: all MISSING", x, x.poke(0, 0, 1), 1111, DONE);
        for (int strip = 0; strip < 4; strip++) {
            x.hang(0, strip, 4 - strip);
        }
        due.is("11: all SET", x, x.poke(0, 0, -8000001), 0, DONE);
        due.is("11: TINT", x, x.get(0, TINTS, 0), 60927, DONE);
        due.is("11: TRIM", x, x.get(0, TRIMS, 0), -4609, DONE);
        due.is("11: LEVEL", x, x.get(0, LEVELS, 0), -8000000, DONE);
        due.is("11: KEY", x, x.get(0, KEYS, 0), 1, DONE);
        due.counts("11: four SET", x, 8, 4);
        due.is("11: a refusal ends nothing", x, x.poke(0, 1, 3), 2000, DONE);
        due.is("11: the LEVEL is SET", x, x.get(0, LEVELS, 1), 3, DONE);
        x.strike(0, TINTS);
        due.is("11: the first one refused", x, x.poke(0, 0, 2), 1, DONE);
        due.is("11: those behind are SET", x, x.get(0, KEYS, 0), 0, DONE);
        due.counts("11: SET where not refused", x, 8, 4 + 3 + 3);
        due.is("11: poke(0, -1, 1)", x, x.poke(0, -1, 1), 2221, DONE);
        due.is("11: poke(0, MAX, 1)", x, x.poke(0, MAX, 1), 2221, DONE);
        due.counts("11: MISSING", x, 0, 4 + 1 + 2);
        due.counts("11: OUTSIDE", x, 1, 1 + 3 + 3);
        for (int b : NO_BANKS) {
            due.is("11: poke(" + b + ", 0, 1)", x, x.poke(b, 0, 1), 0, BAD);
        }
        due.counts("11: BAD SETS none", x, 8, 10);
    }

    private static void shown() {
        LampLoft x = fullBank(2);
        x.set(0, LEVELS, 1, 1000);
        x.set(0, TRIMS, 1, -30);
        due.is("12: the KEY is 0", x, x.shown(0, 1), 0, DONE);
        x.set(0, KEYS, 1, 1);
        due.is("12: LEVEL and TRIM", x, x.shown(0, 1), 970, DONE);
        x.set(0, TINTS, 1, 65535);
        due.is("12: an odd TINT", x, x.shown(0, 1), -970, DONE);
        x.set(0, TINTS, 1, 65534);
        due.is("12: an even TINT", x, x.shown(0, 1), 970, DONE);
        x.set(0, LEVELS, 1, 8000000);
        x.set(0, TRIMS, 1, 32767);
        due.is("12: beyond the LEVELS", x, x.shown(0, 1), 8032767, DONE);
        x.set(0, LEVELS, 1, -8000000);
        x.set(0, TRIMS, 1, -32768);
        x.set(0, TINTS, 1, 1);
        due.is("12: and turned", x, x.shown(0, 1), 8032768, DONE);
        due.is("12: the lamp beside is off", x, x.shown(0, 0), 0, DONE);
        due.is("12: shown(0, 2)", x, x.shown(0, 2), 0, OUTSIDE);
        due.is("12: shown(0, -1)", x, x.shown(0, -1), 0, OUTSIDE);
        due.is("12: shown(1, 0)", x, x.shown(1, 0), 0, MISSING);
        due.counts("12: the first ends it", x, 0, 1);
        due.counts("12: the first ends it", x, 1, 2);
        for (int b : NO_BANKS) {
            due.is("12: shown(" + b + ", 0)", x, x.shown(b, 0), 0, BAD);
        }
    }

    private static void shownOrder() {
        LampLoft x = new LampLoft();
        x.hang(0, KEYS, 2);
        due.is("12: off, nothing else is LOOKED at", x, x.shown(0, 0), 0, DONE);
        due.counts("12: no refusal", x, 0, 0);
        x.set(0, KEYS, 0, 1);
        due.is("12: LEVEL MISSING", x, x.shown(0, 0), 0, MISSING);
        due.counts("12: one refusal", x, 0, 1);
        x.hang(0, LEVELS, 0);
        due.is("12: LEVEL OUTSIDE ahead of TRIM MISSING", x, x.shown(0, 0), 0, OUTSIDE);
        x.hang(0, LEVELS, 1);
        x.set(0, LEVELS, 0, 9);
        due.is("12: TRIM MISSING", x, x.shown(0, 0), 0, MISSING);
        x.hang(0, TINTS, 0);
        due.is("12: TRIM MISSING ahead of TINT OUTSIDE", x, x.shown(0, 0), 0, MISSING);
        x.strike(0, TINTS);
        x.hang(0, TRIMS, 0);
        due.is("12: TRIM OUTSIDE ahead of TINT MISSING", x, x.shown(0, 0), 0, OUTSIDE);
        x.hang(0, TRIMS, 1);
        due.is("12: TINT MISSING", x, x.shown(0, 0), 0, MISSING);
        x.hang(0, TINTS, 0);
        due.is("12: TINT OUTSIDE", x, x.shown(0, 0), 0, OUTSIDE);
        x.hang(0, TINTS, 1);
        due.is("12: all there", x, x.shown(0, 0), 9, DONE);
        due.counts("12: MISSING", x, 0, 4);
        due.counts("12: OUTSIDE", x, 1, 3);
    }

    private static void lit() {
        LampLoft x = new LampLoft();
        due.is("13: LEVELS MISSING", x, x.lit(0), 0, MISSING);
        due.counts("13: one refusal", x, 0, 1);
        x.hang(0, LEVELS, 4);
        due.is("13: KEYS MISSING", x, x.lit(0), 0, DONE);
        due.counts("13: a refusal a place", x, 0, 5);
        x.hang(0, KEYS, 3);
        int[] levels = {1, 0, -5, 8};
        for (int i = 0; i < 4; i++) {
            x.set(0, LEVELS, i, levels[i]);
        }
        due.is("13: all KEYS are 0", x, x.lit(0), 0, DONE);
        due.counts("13: place 3 has no KEY", x, 1, 1);
        for (int i = 0; i < 3; i++) {
            x.set(0, KEYS, i, 1);
        }
        due.is("13: one above 0 with its KEY", x, x.lit(0), 1, DONE);
        due.counts("13: place 3 has no KEY", x, 1, 2);
        x.set(0, LEVELS, 2, 5);
        due.is("13: two", x, x.lit(0), 2, DONE);
        x.hang(0, KEYS, 24);
        x.set(0, KEYS, 3, 1);
        x.set(0, KEYS, 20, 1);
        due.is("13: KEYS behind the LEVELS are not LOOKED at", x, x.lit(0), 1, DONE);
        x.hang(0, LEVELS, 0);
        due.is("13: no LEVELS", x, x.lit(0), 0, DONE);
        due.counts("13: OUTSIDE in all", x, 1, 3);
        for (int b : NO_BANKS) {
            due.is("13: lit(" + b + ")", x, x.lit(b), 0, BAD);
        }
        due.counts("13: BAD does not count", x, 0, 5);
    }

    private static void fade() {
        LampLoft x = new LampLoft();
        due.is("14: MISSING", x, x.fade(0, 0, 5, 1), 0, MISSING);
        x.hang(0, LEVELS, 2);
        due.is("14: OUTSIDE", x, x.fade(0, 2, 5, 1), 0, OUTSIDE);
        due.is("14: OUTSIDE below", x, x.fade(0, -1, 5, 1), 0, OUTSIDE);
        due.counts("14: none runs", x, 3, 0);
        due.is("14: fade(0, 0, 5, 1)", x, x.fade(0, 0, 5, 1), 1, DONE);
        due.is("14: fade(0, 1, MAX, 1000)", x, x.fade(0, 1, MAX, 1000), 2, DONE);
        due.is("14: a LEVEL at its target begins, too", x, x.fade(0, 0, 0, 1), 3, DONE);
        due.counts("14: three run", x, 3, 3);
        due.counts("14: nothing is SET yet", x, 8, 0);
        due.counts("14: MISSING", x, 0, 1);
        due.counts("14: OUTSIDE", x, 1, 2);
        for (int step : new int[] {0, -1, 1001, MIN, MAX}) {
            due.is("14: fade(0, 0, 5, " + step + ")", x, x.fade(0, 0, 5, step), 0, BAD);
        }
        for (int b : NO_BANKS) {
            due.is("14: fade(" + b + ", 0, 5, 1)", x, x.fade(b, 0, 5, 1), 0, BAD);
        }
        due.counts("14: BAD begins none", x, 3, 3);

        LampLoft y = new LampLoft();
        y.hang(0, LEVELS, 2);
        y.set(0, LEVELS, 0, 7999999);
        y.set(0, LEVELS, 1, -7999999);
        y.fade(0, 0, MAX, 1);
        y.fade(0, 1, MIN, 1);
        due.is("14: the target is as it would be SET", y, y.tick(), 0, DONE);
        due.is("14: the highest", y, y.get(0, LEVELS, 0), 8000000, DONE);
        due.is("14: the lowest", y, y.get(0, LEVELS, 1), -8000000, DONE);
        due.counts("14: both REACHED", y, 4, 2);
    }

    private static void fadeFull() {
        LampLoft x = new LampLoft();
        x.hang(0, LEVELS, 1);
        for (int f = 1; f <= 16; f++) {
            due.is("14: fade " + f, x, x.fade(0, 0, 100, 1), f, DONE);
        }
        due.is("14: the 17th", x, x.fade(0, 0, 100, 1), 0, FULL);
        due.is("14: FULL, nothing is LOOKED at", x, x.fade(1, 0, 100, 1), 0, FULL);
        due.is("14: FULL, OUTSIDE", x, x.fade(0, 9, 100, 1), 0, FULL);
        due.is("14: BAD ahead of FULL", x, x.fade(0, 0, 100, 0), 0, BAD);
        due.counts("14: no refusal counts", x, 0, 0);
        due.counts("14: no refusal counts", x, 1, 0);
        due.counts("14: 16 run", x, 3, 16);
        due.is("14: all 16 step", x, x.tick(), 16, DONE);
        due.is("14: by 1 each", x, x.get(0, LEVELS, 0), 16, DONE);
        x.set(0, LEVELS, 0, 100);
        due.is("14: all REACHED", x, x.tick(), 0, DONE);
        due.is("14: room again", x, x.fade(0, 0, 100, 1), 1, DONE);
    }

    private static void tick() {
        LampLoft x = new LampLoft();
        x.hang(0, LEVELS, 4);
        x.set(0, LEVELS, 1, 25);
        x.set(0, LEVELS, 2, -7);
        x.fade(0, 0, 20, 10);
        x.fade(0, 1, 2, 10);
        x.fade(0, 2, -7, 3);
        due.is("15: first tick()", x, x.tick(), 2, DONE);
        due.is("15: nearer, upward", x, x.get(0, LEVELS, 0), 10, DONE);
        due.is("15: nearer, downward", x, x.get(0, LEVELS, 1), 15, DONE);
        due.is("15: was the target", x, x.get(0, LEVELS, 2), -7, DONE);
        due.counts("15: one REACHED", x, 4, 1);
        due.counts("15: SET, the one at its target, too", x, 8, 2 + 3);
        due.is("15: second tick()", x, x.tick(), 1, DONE);
        due.is("15: just as far as the step", x, x.get(0, LEVELS, 0), 20, DONE);
        due.is("15: nearer again", x, x.get(0, LEVELS, 1), 5, DONE);
        due.is("15: third tick()", x, x.tick(), 0, DONE);
        due.is("15: less far than the step", x, x.get(0, LEVELS, 1), 2, DONE);
        due.counts("15: three REACHED", x, 4, 3);
        due.counts("15: none DROPPED", x, 5, 0);
        due.counts("15: none DROPPED", x, 6, 0);
        x.set(0, LEVELS, 0, 1);
        due.is("15: fourth tick()", x, x.tick(), 0, DONE);
        due.is("15: runs no more", x, x.get(0, LEVELS, 0), 1, DONE);
        x.set(0, LEVELS, 3, -8000000);
        x.fade(0, 3, 8000000, 1000);
        due.is("15: a long way", x, x.tick(), 1, DONE);
        due.is("15: by the step", x, x.get(0, LEVELS, 3), -7999000, DONE);
    }

    private static void tickDrops() {
        LampLoft x = new LampLoft();
        x.hang(0, LEVELS, 2);
        x.hang(1, LEVELS, 2);
        x.hang(2, LEVELS, 2);
        x.fade(0, 1, 50, 10);
        x.fade(1, 1, 50, 10);
        x.fade(2, 1, 50, 10);
        x.strike(0, LEVELS);
        x.hang(1, LEVELS, 1);
        due.is("15: two DROPPED", x, x.tick(), 1, DONE);
        due.counts("15: as MISSING", x, 5, 1);
        due.counts("15: as OUTSIDE", x, 6, 1);
        due.counts("15: refused as MISSING", x, 0, 1);
        due.counts("15: refused as OUTSIDE", x, 1, 1);
        due.counts("15: one runs", x, 3, 1);
        due.counts("15: none REACHED", x, 4, 0);
        due.is("15: the one behind them ran", x, x.get(2, LEVELS, 1), 10, DONE);
        x.hang(0, LEVELS, 2);
        x.hang(2, LEVELS, 3);
        x.set(2, LEVELS, 1, 100);
        due.is("15: the strip that is there at the tick", x, x.tick(), 1, DONE);
        due.is("15: from where it stands", x, x.get(2, LEVELS, 1), 90, DONE);
        due.is("15: a DROPPED one is gone", x, x.get(0, LEVELS, 1), 0, DONE);
    }

    private static void tickOrder() {
        LampLoft x = new LampLoft();
        x.hang(0, LEVELS, 1);
        x.share(1, LEVELS, 0);
        x.fade(0, 0, 10, 10);
        x.fade(1, 0, -10, 5);
        x.fade(0, 0, 6, 1);
        due.is("15: in order, on the very same place", x, x.tick(), 1, DONE);
        due.is("15: 10, 5, 6", x, x.get(0, LEVELS, 0), 6, DONE);
        due.counts("15: the first and the third REACHED", x, 4, 2);
        due.is("15: a new one goes behind", x, x.fade(0, 0, 100, 20), 2, DONE);
        due.is("15: tick()", x, x.tick(), 2, DONE);
        due.is("15: 1, 21", x, x.get(0, LEVELS, 0), 21, DONE);
        x.set(0, LEVELS, 0, -5);
        due.is("15: the older one first", x, x.tick(), 1, DONE);
        due.is("15: -10, 10", x, x.get(0, LEVELS, 0), 10, DONE);
    }

    private static void sheet() {
        LampLoft x = new LampLoft();
        due.is("16: sheet(12, 12)", x, x.sheet(12, 12), 144, DONE);
        due.is("16: its last CELL", x, x.cell(11, 11), 0, DONE);
        due.counts("16: ROWS", x, 9, 12);
        due.is("16: sheet(2, 3)", x, x.sheet(2, 3), 6, DONE);
        x.hang(0, KEYS, 3);
        x.hang(0, LEVELS, 3);
        x.hang(0, TRIMS, 3);
        x.hang(0, TINTS, 3);
        x.poke(0, 2, 8);
        x.set(0, KEYS, 2, 1);
        x.draw(0, 1);
        due.is("16: ROWS are not the very same", x, x.cell(0, 2), 0, DONE);
        due.is("16: drawn", x, x.cell(1, 2), 16, DONE);
        due.is("16: sheet(13, 0)", x, x.sheet(13, 0), 0, LARGE);
        due.is("16: sheet(0, 13)", x, x.sheet(0, 13), 0, LARGE);
        due.is("16: sheet(13, -1)", x, x.sheet(13, -1), 0, LARGE);
        due.is("16: sheet(-1, 13)", x, x.sheet(-1, 13), 0, LARGE);
        due.is("16: sheet(MAX, MIN)", x, x.sheet(MAX, MIN), 0, LARGE);
        due.counts("16: LARGE does not count", x, 2, 0);
        due.is("16: sheet(-1, 1)", x, x.sheet(-1, 1), 0, NEGATIVE);
        due.is("16: sheet(1, -1)", x, x.sheet(1, -1), 0, NEGATIVE);
        due.is("16: sheet(0, MIN)", x, x.sheet(0, MIN), 0, NEGATIVE);
        due.is("16: sheet(-1, -1)", x, x.sheet(-1, -1), 0, NEGATIVE);
        due.counts("16: once each", x, 2, 4);
        due.is("16: the SHEET stays", x, x.cell(1, 2), 16, DONE);
        due.is("16: sheet(2, 3) anew", x, x.sheet(2, 3), 6, DONE);
        due.is("16: 0 in each", x, x.cell(1, 2), 0, DONE);
        due.is("16: sheet(0, 5)", x, x.sheet(0, 5), 0, DONE);
        due.is("16: no ROW, but a SHEET", x, x.cell(0, 0), 0, OUTSIDE);
        due.is("16: sheet(5, 0)", x, x.sheet(5, 0), 0, DONE);
        due.counts("16: five ROWS", x, 9, 5);
        due.is("16: no CELL", x, x.cell(4, 0), 0, OUTSIDE);
    }

    private static void cell() {
        LampLoft x = new LampLoft();
        due.is("17: no SHEET", x, x.cell(-1, -1), 0, MISSING);
        x.sheet(2, 3);
        due.is("17: cell(1, 2)", x, x.cell(1, 2), 0, DONE);
        due.is("17: cell(2, 0)", x, x.cell(2, 0), 0, OUTSIDE);
        due.is("17: cell(-1, 0)", x, x.cell(-1, 0), 0, OUTSIDE);
        due.is("17: cell(MIN, 0)", x, x.cell(MIN, 0), 0, OUTSIDE);
        due.is("17: cell(MAX, 0)", x, x.cell(MAX, 0), 0, OUTSIDE);
        due.is("17: cell(0, 3)", x, x.cell(0, 3), 0, OUTSIDE);
        due.is("17: cell(0, -1)", x, x.cell(0, -1), 0, OUTSIDE);
        due.is("17: cell(0, MIN)", x, x.cell(0, MIN), 0, OUTSIDE);
        due.is("17: cell(0, MAX)", x, x.cell(0, MAX), 0, OUTSIDE);
        x.tear(1, -1);
        due.is("17: torn out", x, x.cell(1, 0), 0, MISSING);
        due.is("17: torn out ahead of no CELL", x, x.cell(1, 9), 0, MISSING);
        due.is("17: no ROW ahead of no CELL", x, x.cell(2, 9), 0, OUTSIDE);
        due.counts("17: MISSING", x, 0, 3);
        due.counts("17: OUTSIDE", x, 1, 9);
        due.counts("17: nothing is written", x, 10, 0);
    }

    private static void tear() {
        LampLoft x = fullBank(1);
        x.set(0, LEVELS, 0, 40);
        x.set(0, KEYS, 0, 1);
        x.sheet(3, 2);
        due.is("18: tear(0, 2)", x, x.tear(0, 2), 1, DONE);
        x.draw(0, 2);
        due.is("18: the very same ROW", x, x.cell(0, 0), 40, DONE);
        due.is("18: not the one between", x, x.cell(1, 0), 0, DONE);
        due.is("18: tear(2, -1)", x, x.tear(2, -1), 0, DONE);
        due.is("18: it is torn out", x, x.cell(2, 0), 0, MISSING);
        due.is("18: the other one is kept", x, x.cell(0, 0), 40, DONE);
        due.is("18: tear(1, 2), a torn out one", x, x.tear(1, 2), 0, DONE);
        due.is("18: torn out, too", x, x.cell(1, 0), 0, MISSING);
        due.is("18: tear(1, 1) of a torn out one", x, x.tear(1, 1), 0, DONE);
        due.is("18: tear(2, 0) brings one back", x, x.tear(2, 0), 1, DONE);
        due.is("18: it is there", x, x.cell(2, 0), 40, DONE);
        due.is("18: tear(0, 0)", x, x.tear(0, 0), 1, DONE);
        due.is("18: nothing changes by that", x, x.cell(0, 0), 40, DONE);
        due.counts("18: torn out ROWS, too", x, 9, 3);
        x.sheet(3, 2);
        due.is("18: a new SHEET has all ROWS", x, x.cell(1, 0), 0, DONE);
    }

    private static void tearRefusals() {
        LampLoft x = new LampLoft();
        due.is("18: no SHEET", x, x.tear(0, 0), 0, MISSING);
        due.is("18: no SHEET, whatever the ROWS", x, x.tear(-5, -5), 0, MISSING);
        due.is("18: no SHEET, k = -1", x, x.tear(0, -1), 0, MISSING);
        x.sheet(2, 1);
        due.is("18: no ROW k", x, x.tear(0, 2), 0, OUTSIDE);
        due.is("18: no ROW k below", x, x.tear(0, -2), 0, OUTSIDE);
        due.is("18: no ROW k, MIN", x, x.tear(0, MIN), 0, OUTSIDE);
        due.is("18: no ROW k, MAX", x, x.tear(0, MAX), 0, OUTSIDE);
        due.is("18: no ROW i", x, x.tear(2, 0), 0, OUTSIDE);
        due.is("18: no ROW i, -1", x, x.tear(-1, 0), 0, OUTSIDE);
        due.is("18: no ROW i, k = -1", x, x.tear(2, -1), 0, OUTSIDE);
        due.is("18: no ROW i, both -1", x, x.tear(-1, -1), 0, OUTSIDE);
        due.is("18: neither, counts alone", x, x.tear(7, 7), 0, OUTSIDE);
        due.counts("18: MISSING", x, 0, 3);
        due.counts("18: OUTSIDE", x, 1, 9);
        due.is("18: the ROWS stay", x, x.cell(0, 0), 0, DONE);
        due.is("18: the ROWS stay", x, x.cell(1, 0), 0, DONE);
        x.tear(1, -1);
        due.is("18: a torn out ROW k is no refusal, no ROW i is", x, x.tear(2, 1), 0, OUTSIDE);
        x.sheet(0, 0);
        due.is("18: no ROW at all", x, x.tear(0, -1), 0, OUTSIDE);
    }

    private static void draw() {
        LampLoft x = fullBank(3);
        for (int i = 0; i < 3; i++) {
            x.set(0, LEVELS, i, 100 * (i + 1));
            x.set(0, TRIMS, i, 1);
            x.set(0, TINTS, i, i);
        }
        x.set(0, KEYS, 0, 1);
        x.set(0, KEYS, 1, 1);
        x.sheet(2, 5);
        due.is("19: draw(0, 1)", x, x.draw(0, 1), 3, OUTSIDE);
        int[] stands = {101, -201, 0, 0, 0};
        for (int j = 0; j < 5; j++) {
            due.is("19: cell(1, " + j + ")", x, x.cell(1, j), stands[j], DONE);
            due.is("19: cell(0, " + j + ")", x, x.cell(0, j), 0, DONE);
        }
        due.counts("19: CELLS written, a 0, too", x, 10, 3);
        due.counts("19: one refusal", x, 1, 1);
        x.set(0, KEYS, 0, 0);
        x.draw(0, 1);
        due.is("19: a lamp that is off is written as 0", x, x.cell(1, 0), 0, DONE);
        x.sheet(1, 2);
        due.is("19: the ROW ends ahead of the lamps", x, x.draw(0, 0), 2, OUTSIDE);
        due.counts("19: CELLS written", x, 10, 8);
        due.counts("19: OUTSIDE", x, 1, 3);

        LampLoft y = fullBank(24);
        y.sheet(12, 12);
        due.is("19: as wide as it goes", y, y.draw(0, 11), 12, OUTSIDE);
        y.hang(0, KEYS, 12);
        due.is("19: lamps and CELLS end together", y, y.draw(0, 0), 12, OUTSIDE);
        due.counts("19: one refusal each", y, 1, 2);
        y.sheet(1, 0);
        due.is("19: no CELL", y, y.draw(0, 0), 0, OUTSIDE);
    }

    private static void drawRefusals() {
        LampLoft x = new LampLoft();
        x.sheet(2, 4);
        due.is("19: no KEYS", x, x.draw(0, 9), 0, MISSING);
        x.hang(0, KEYS, 4);
        due.is("19: off, no ROW 9", x, x.draw(0, 9), 0, OUTSIDE);
        due.is("19: no ROW -1", x, x.draw(0, -1), 0, OUTSIDE);
        due.is("19: no ROW MIN", x, x.draw(0, MIN), 0, OUTSIDE);
        due.is("19: no ROW MAX", x, x.draw(0, MAX), 0, OUTSIDE);
        x.set(0, KEYS, 2, 1);
        due.is("19: lamp 2 has no LEVEL", x, x.draw(0, 0), 2, MISSING);
        x.tear(0, -1);
        due.is("19: torn out", x, x.draw(0, 0), 0, MISSING);
        due.counts("19: MISSING", x, 0, 3);
        due.counts("19: OUTSIDE", x, 1, 4);
        due.counts("19: CELLS written", x, 10, 2);

        LampLoft y = fullBank(1);
        due.is("19: no SHEET", y, y.draw(0, 0), 0, MISSING);
        y.hang(0, KEYS, 0);
        due.is("19: no lamp ahead of no SHEET", y, y.draw(0, 0), 0, OUTSIDE);
        for (int b : NO_BANKS) {
            due.is("19: draw(" + b + ", 0)", y, y.draw(b, 0), 0, BAD);
        }
        due.counts("19: BAD does not count", y, 0, 1);

        LampLoft z = fullBank(2);
        z.set(0, LEVELS, 0, 3);
        z.set(0, KEYS, 0, 1);
        z.set(0, KEYS, 1, 1);
        z.hang(0, TINTS, 1);
        z.sheet(3, 3);
        z.tear(0, 2);
        due.is("19: what was written ahead stays", z, z.draw(0, 0), 1, OUTSIDE);
        due.is("19: in the very same ROW, too", z, z.cell(2, 0), 3, DONE);
    }

    private static void status() {
        LampLoft x = new LampLoft();
        due.is("20: at first", x.status(), DONE);
        x.count(0);
        due.is("20: behind count()", x.status(), DONE);
        x.size(0, 0);
        due.is("20: MISSING", x.status(), MISSING);
        due.is("20: and again", x.status(), MISSING);
        x.count(99);
        due.is("20: count() leaves none", x.status(), MISSING);
        x.strike(0, 0);
        due.is("20: the latest call's", x.status(), DONE);
        x.size(9, 0);
        due.is("20: BAD", x.status(), BAD);
        x.tick();
        due.is("20: tick() leaves 0", x.status(), DONE);
    }

    private static void count() {
        LampLoft x = new LampLoft();
        x.hang(0, LEVELS, 2);
        x.hang(0, KEYS, 1);
        x.share(1, LEVELS, 0);
        x.set(0, LEVELS, 0, 4);
        x.hang(0, TINTS, -1);
        x.get(0, LEVELS, 2);
        x.get(0, TINTS, 0);
        x.get(0, TRIMS, 0);
        x.sheet(4, 1);
        x.draw(0, 0);
        x.fade(0, 0, 4, 1);
        x.fade(0, 1, 100, 1);
        x.tick();
        int[] want = {2, 2, 1, 1, 1, 0, 0, 3, 3, 4, 1};
        for (int what = 0; what < want.length; what++) {
            due.counts("21", x, what, want[what]);
        }
        for (int what : new int[] {-1, 11, MIN, MAX}) {
            due.counts("21: another what", x, what, 0);
        }
        x.strike(0, LEVELS);
        x.tick();
        due.counts("21: DROPPED", x, 5, 1);
        due.counts("21: none runs", x, 3, 0);
        due.counts("21: the SHARED one is there still", x, 7, 2);
        x.sheet(0, 0);
        due.counts("21: ROWS of the new SHEET", x, 9, 0);
        due.counts("21: written so far, the SHEET aside", x, 10, 1);
    }

    private static void countOfStrips() {
        LampLoft x = new LampLoft();
        int there = 0;
        for (int bank = 0; bank < 6; bank++) {
            for (int strip = 0; strip < 4; strip++) {
                x.hang(bank, strip, 1);
                there++;
                due.counts("21: hung (" + bank + ", " + strip + ")", x, 7, there);
            }
        }
        for (int bank = 0; bank < 6; bank++) {
            for (int strip = 0; strip < 4; strip++) {
                x.strike(bank, strip);
                there--;
                due.counts("21: struck (" + bank + ", " + strip + ")", x, 7, there);
            }
        }
    }

    private static void badComesFirst() {
        LampLoft x = new LampLoft();
        due.is("BAD: size(6, 0)", x, x.size(6, 0), 0, BAD);
        due.is("BAD: get(0, 4, 0)", x, x.get(0, 4, 0), 0, BAD);
        due.is("BAD: set(0, -1, 0, 0)", x, x.set(0, -1, 0, 0), 0, BAD);
        due.is("BAD: patch(0, 0, 6, 0, 0)", x, x.patch(0, 0, 6, 0, 0), 0, BAD);
        due.is("BAD: patch(0, 0, 0, 0, 16)", x, x.patch(0, 0, 0, 0, 16), 0, BAD);
        due.is("BAD: ripple(0, 0, 0, 65, 0)", x, x.ripple(0, 0, 0, 65, 0), 0, BAD);
        due.is("BAD: fade(0, 0, 0, 0)", x, x.fade(0, 0, 0, 0), 0, BAD);
        for (int what = 0; what <= 10; what++) {
            due.counts("BAD: nothing is done", x, what, 0);
        }
    }
}
