import java.util.List;
import java.util.Set;

/** What a class that holds sentences of the document by tests needs: a sentence at a time, and a desk for it. */
abstract class Sentences {
    static final int DONE = 0;
    static final int BAD = 1;
    static final int MISSING = 2;
    static final int OUTSIDE = 3;
    static final int NEGATIVE = 4;
    static final int LARGE = 5;
    static final int FULL = 6;

    static final int MOST_COUNTS = 10;
    static final int NONE_COUNTS = -1;

    static final String[] NO_BANKS = {"-1", "6", "MIN", "MAX"};
    static final String[] NO_STRIPS = {"-1", "4", "MIN", "MAX"};

    /** A desk on which a bit of everything stands: SHARED, empty and MISSING strips, ROWS torn out and the very same, FADES. */
    private static final String[] FURNITURE = {
        "hang(0, 0, 4)", "hang(0, 1, 4)", "hang(0, 2, 4)", "hang(0, 3, 4)",
        "hang(1, 2, 2)", "share(1, 3, 0)",
        "hang(2, 2, 0)", "hang(2, 3, 24)",
        "share(3, 2, 0)",
        "hang(5, 0, 1)",
        "set(0, 0, 0, 7)", "set(0, 1, 1, -5)", "set(0, 2, 0, 300)", "set(0, 2, 1, -40)",
        "set(0, 3, 0, 1)", "set(0, 3, 1, 1)",
        "sheet(4, 4)", "tear(1, 2)", "tear(0, -1)", "draw(0, 1)",
        "fade(0, 0, 1000, 100)", "fade(3, 0, -50, 7)", "fade(1, 1, 8, 8)",
    };

    private final Due due;
    private final Set<String> held;
    private String label = "";
    private Desk desk = new Desk();

    Sentences(Due due, Set<String> held) {
        this.due = due;
        this.held = held;
    }

    /** The tests from here on hold this sentence of this section, word by word; they begin with a new desk. */
    final void sentence(String section, String words) {
        label = section + " \"" + words + "\": ";
        held.add(section + "|" + words);
        newDesk();
    }

    final void newDesk() {
        desk = new Desk();
    }

    final void furnishedDesk() {
        newDesk();
        ask(FURNITURE);
    }

    /** Calls that only lead to what is to be tested. */
    final void ask(String... calls) {
        for (String call : calls) {
            desk.ask(call);
        }
    }

    final void ask(int times, String call) {
        for (int t = 0; t < times; t++) {
            desk.ask(call);
        }
    }

    final void is(String call, int answer) {
        due.is(label + call, desk.ask(call), answer);
    }

    final void is(String call, int answer, int status) {
        is(call, answer);
        due.is(label + "status() behind " + call, desk.ask("status()"), status);
    }

    /** A call that leaves STATUS 0. */
    final void done(String call, int answer) {
        is(call, answer, DONE);
    }

    final void counts(int what, int want) {
        is("count(" + what + ")", want);
    }

    /** A call that answers 0, leaves this STATUS, counts as the document says of this kind, and leaves all as it was. */
    final void refused(String call, int status) {
        leavesAllAsItWas(call, countOf(status), 1);
        is(call, 0, status);
    }

    /** The same with each of these numbers in the place of every "?". */
    final void refused(String call, String[] numbers, int status) {
        for (String number : numbers) {
            refused(call.replace("?", number), status);
        }
    }

    /** A call behind which one count is higher by so many, and nothing else is another than without that call. */
    final void leavesAllAsItWas(String call, int what, int by) {
        Desk with = desk.again();
        with.ask(call);
        Desk without = desk.again();
        for (int c = 0; c <= MOST_COUNTS; c++) {
            int want = without.ask("count(" + c + ")") + (c == what ? by : 0);
            due.is(label + "count(" + c + ") behind " + call, with.ask("count(" + c + ")"), want);
        }
        for (int part = 0; part < Sweep.PARTS; part++) {
            with = desk.again();
            with.ask(call);
            seesTheSame(call, Sweep.part(part, with), Sweep.part(part, desk.again()));
        }
    }

    private void seesTheSame(String call, List<String> with, List<String> without) {
        for (int s = 0; s < without.size(); s++) {
            String text = label + "behind " + call + " " + with.get(s) + ", without it " + without.get(s);
            due.is(text, with.get(s).equals(without.get(s)) ? 1 : 0, 1);
        }
    }

    private static int countOf(int status) {
        switch (status) {
            case MISSING: return 0;
            case OUTSIDE: return 1;
            case NEGATIVE: return 2;
            default: return NONE_COUNTS;
        }
    }
}
