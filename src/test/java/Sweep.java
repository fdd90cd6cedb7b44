import java.util.ArrayList;
import java.util.List;

/**
 * All that can be seen of a desk but its counts and its STATUS. The calls that see it are too many
 * for one object, and some of them change it, so each part of the sweep is made on a desk of its own.
 */
final class Sweep {
    static final int PARTS = 14;

    private static final int BANKS = 6;
    private static final int STRIPS = 4;
    private static final int MOST_PLACES = 24;
    private static final int MOST_ROWS = 12;

    private final Desk desk;
    private final List<String> seen = new ArrayList<>();

    private Sweep(Desk desk) {
        this.desk = desk;
    }

    /** What one part of the sweep sees, a written call with its answer each. */
    static List<String> part(int part, Desk desk) {
        Sweep sweep = new Sweep(desk);
        if (part < BANKS) {
            sweep.numbersOf(part);
        } else if (part < BANKS + STRIPS) {
            sweep.sharedOnes(part - BANKS);
        } else if (part == 10) {
            sweep.cells();
        } else if (part == 11) {
            sweep.sameRows();
        } else {
            sweep.fades(part == 12 ? 1 : 3);
        }
        return sweep.seen;
    }

    private void see(String call) {
        seen.add(call + " = " + desk.ask(call));
    }

    private void numbersOf(int bank) {
        for (int strip = 0; strip < STRIPS; strip++) {
            see("size(" + bank + ", " + strip + ")");
            for (int i = 0; i < MOST_PLACES; i++) {
                see("get(" + bank + ", " + strip + ", " + i + ")");
            }
        }
    }

    /** A 1 that wanders from bank to bank is seen by all that have the very same strip. */
    private void sharedOnes(int strip) {
        for (int bank = 0; bank < BANKS; bank++) {
            see("set(" + bank + ", " + strip + ", 0, 0)");
        }
        for (int bank = 0; bank < BANKS; bank++) {
            see("set(" + bank + ", " + strip + ", 0, 1)");
            for (int other = 0; other < BANKS; other++) {
                see("get(" + other + ", " + strip + ", 0)");
            }
            see("set(" + bank + ", " + strip + ", 0, 0)");
        }
    }

    private void cells() {
        for (int i = 0; i < MOST_ROWS; i++) {
            for (int j = 0; j < MOST_ROWS; j++) {
                see("cell(" + i + ", " + j + ")");
            }
        }
    }

    private void sameRows() {
        for (int strip = 0; strip < STRIPS; strip++) {
            see("hang(0, " + strip + ", 1)");
        }
        see("set(0, 3, 0, 1)");
        for (int i = 0; i < MOST_ROWS; i++) {
            see("set(0, 2, 0, " + (i + 1) + ")");
            see("draw(0, " + i + ")");
            for (int row = 0; row < MOST_ROWS; row++) {
                see("cell(" + row + ", 0)");
            }
        }
    }

    /** From new LEVELS on, what the fades do tells their banks, places, targets and steps. */
    private void fades(int ticks) {
        for (int bank = 0; bank < BANKS; bank++) {
            see("hang(" + bank + ", 2, " + MOST_PLACES + ")");
        }
        for (int t = 0; t < ticks; t++) {
            see("tick()");
        }
        for (int bank = 0; bank < BANKS; bank++) {
            for (int i = 0; i < MOST_PLACES; i++) {
                see("get(" + bank + ", 2, " + i + ")");
            }
        }
    }
}
