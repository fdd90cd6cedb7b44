import java.util.ArrayList;
import java.util.List;

/**
 * A LampLoft that is asked by written calls, such as "hang(0, 2, MAX)". It keeps them, so that the
 * very same run can be made again.
 */
final class Desk {
    /** What a later call answers is free, so no test may lean on it. */
    static final int MOST_CALLS = 512;

    private final LampLoft loft = new LampLoft();
    private final List<String> asked = new ArrayList<>();

    int ask(String call) {
        if (asked.size() >= MOST_CALLS) {
            throw new IllegalStateException("call " + (asked.size() + 1) + " of an object: " + call);
        }
        asked.add(call);
        int open = call.indexOf('(');
        int close = call.length() - 1;
        if (open < 1 || call.charAt(close) != ')') {
            throw new IllegalArgumentException("no call: " + call);
        }
        return answer(call.substring(0, open), numbersIn(call.substring(open + 1, close)));
    }

    /** A new desk behind the very same calls. */
    Desk again() {
        Desk twin = new Desk();
        for (String call : asked) {
            twin.ask(call);
        }
        return twin;
    }

    private static int[] numbersIn(String list) {
        if (list.isBlank()) {
            return new int[0];
        }
        String[] parts = list.split(",");
        int[] numbers = new int[parts.length];
        for (int p = 0; p < parts.length; p++) {
            numbers[p] = number(parts[p].trim());
        }
        return numbers;
    }

    private static int number(String text) {
        switch (text) {
            case "MIN": return Integer.MIN_VALUE;
            case "MAX": return Integer.MAX_VALUE;
            default: return Integer.parseInt(text);
        }
    }

    private int answer(String name, int[] a) {
        switch (name) {
            case "hang": return loft.hang(a[0], a[1], a[2]);
            case "strike": return loft.strike(a[0], a[1]);
            case "share": return loft.share(a[0], a[1], a[2]);
            case "size": return loft.size(a[0], a[1]);
            case "get": return loft.get(a[0], a[1], a[2]);
            case "set": return loft.set(a[0], a[1], a[2], a[3]);
            case "patch": return loft.patch(a[0], a[1], a[2], a[3], a[4]);
            case "ripple": return loft.ripple(a[0], a[1], a[2], a[3], a[4]);
            case "probe": return loft.probe(a[0], a[1]);
            case "poke": return loft.poke(a[0], a[1], a[2]);
            case "shown": return loft.shown(a[0], a[1]);
            case "lit": return loft.lit(a[0]);
            case "fade": return loft.fade(a[0], a[1], a[2], a[3]);
            case "tick": return loft.tick();
            case "sheet": return loft.sheet(a[0], a[1]);
            case "cell": return loft.cell(a[0], a[1]);
            case "tear": return loft.tear(a[0], a[1]);
            case "draw": return loft.draw(a[0], a[1]);
            case "status": return loft.status();
            case "count": return loft.count(a[0]);
            default: throw new IllegalArgumentException("no call of the face: " + name);
        }
    }
}
