import java.util.Random;

/** Runs of drawn calls, compared in their answers, their STATUS and the counts with LoftModel. */
public final class ModelTest {
    private static final int RUNS = 8000;
    private static final int CALLS = 512;
    /** From count(-1) to count(11). */
    private static final int ALL_COUNTS = 13;
    private static final String[] NAMES = {
        "hang", "strike", "share", "size", "get", "set", "patch", "ripple", "probe", "poke", "shown",
        "lit", "fade", "tick", "sheet", "cell", "tear", "draw",
    };
    /** How often each is drawn: what empties the desk stays rare, or nothing would be left to refuse. */
    private static final int[] OFTEN = {8, 2, 3, 2, 4, 8, 6, 5, 3, 5, 5, 4, 8, 8, 2, 4, 3, 6};
    private static final int[] EDGES = {
        0, 1, -1, 2, 3, 5, 6, 11, 12, 13, 23, 24, 25, 63, 64, 65, 1000, 1001, 32767, 32768, -32768, -32769,
        65535, 65536, 7999999, 8000000, 8000001, -7999999, -8000000, -8000001, 1 << 30, -(1 << 30),
        Integer.MAX_VALUE, Integer.MIN_VALUE,
    };

    private final Due due = new Due();
    private final Random random = new Random(20261116L);
    /** How often a draw is a wild one, in a hundred: some runs stay tame, so that much stands in them. */
    private int wildness;
    private int fewest;

    public static void main(String[] args) {
        ModelTest test = new ModelTest();
        for (int run = 0; run < RUNS; run++) {
            test.wildness = run % 4 * 4;
            test.fewest = run % 3 * 4;
            test.compare(run);
        }
        test.due.finish();
    }

    /** An object answers as the document says for 512 calls, so these are all that it is asked, status() and count() too. */
    private void compare(int run) {
        LampLoft desk = new LampLoft();
        LoftModel model = new LoftModel();
        StringBuilder story = new StringBuilder();
        int asked = 0;
        while (asked < CALLS - ALL_COUNTS - 3) {
            String name = drawName();
            int[] a = drawArguments(name);
            story.setLength(0);
            story.append("run ").append(run).append(", behind ").append(asked).append(" calls: ").append(name);
            String call = story.append(java.util.Arrays.toString(a)).toString();
            due.is(call, ask(desk, name, a), model.call(name, a));
            asked++;
            if (random.nextInt(2) == 0) {
                due.is(call + ", status()", desk.status(), model.status());
                asked++;
            }
            if (random.nextInt(3) == 0) {
                int what = random.nextInt(ALL_COUNTS) - 1;
                due.is(call + ", count(" + what + ")", desk.count(what), model.count(what));
                asked++;
            }
        }
        for (int what = -1; what < ALL_COUNTS - 1; what++) {
            due.is("run " + run + ", at its end, count(" + what + ")", desk.count(what), model.count(what));
        }
    }

    private String drawName() {
        int total = 0;
        for (int often : OFTEN) {
            total += often;
        }
        int left = random.nextInt(total);
        int k = 0;
        while (left >= OFTEN[k]) {
            left -= OFTEN[k];
            k++;
        }
        return NAMES[k];
    }

    private int[] drawArguments(String name) {
        switch (name) {
            case "hang": return new int[] {bank(), strip(), draw(fewest, 12)};
            case "strike": case "size": return new int[] {bank(), strip()};
            case "share": return new int[] {bank(), strip(), bank()};
            case "get": return new int[] {bank(), strip(), place()};
            case "set": return new int[] {bank(), strip(), place(), number()};
            case "patch": return new int[] {bank(), place(), bank(), place(), draw(0, 15)};
            case "ripple": return new int[] {bank(), place(), draw(-3, 3), draw(0, 9), number()};
            case "probe": case "shown": return new int[] {bank(), place()};
            case "poke": return new int[] {bank(), place(), number()};
            case "lit": return new int[] {bank()};
            case "fade": return new int[] {bank(), place(), number(), draw(1, 1000)};
            case "tick": return new int[] {};
            case "sheet": return new int[] {draw(fewest / 2, 12), draw(fewest / 2, 12)};
            case "cell": return new int[] {draw(0, 8), draw(0, 8)};
            case "tear": return new int[] {draw(0, 8), draw(-1, 8)};
            default: return new int[] {bank(), draw(0, 8)};
        }
    }

    private int draw(int low, int high) {
        if (random.nextInt(100) < wildness) {
            return EDGES[random.nextInt(EDGES.length)];
        }
        return low + random.nextInt(high - low + 1);
    }

    private int bank() {
        return draw(0, 2 + random.nextInt(4));
    }

    private int strip() {
        return draw(0, 3);
    }

    private int place() {
        return draw(0, 7);
    }

    private int number() {
        switch (random.nextInt(4)) {
            case 0: return EDGES[random.nextInt(EDGES.length)];
            case 1: return random.nextInt();
            default: return draw(-2000, 2000);
        }
    }

    private static int ask(LampLoft x, String name, int[] a) {
        switch (name) {
            case "hang": return x.hang(a[0], a[1], a[2]);
            case "strike": return x.strike(a[0], a[1]);
            case "share": return x.share(a[0], a[1], a[2]);
            case "size": return x.size(a[0], a[1]);
            case "get": return x.get(a[0], a[1], a[2]);
            case "set": return x.set(a[0], a[1], a[2], a[3]);
            case "patch": return x.patch(a[0], a[1], a[2], a[3], a[4]);
            case "ripple": return x.ripple(a[0], a[1], a[2], a[3], a[4]);
            case "probe": return x.probe(a[0], a[1]);
            case "poke": return x.poke(a[0], a[1], a[2]);
            case "shown": return x.shown(a[0], a[1]);
            case "lit": return x.lit(a[0]);
            case "fade": return x.fade(a[0], a[1], a[2], a[3]);
            case "tick": return x.tick();
            case "sheet": return x.sheet(a[0], a[1]);
            case "cell": return x.cell(a[0], a[1]);
            case "tear": return x.tear(a[0], a[1]);
            default: return x.draw(a[0], a[1]);
        }
    }
}
