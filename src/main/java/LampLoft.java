/**
 * A desk for the lamps of a loft: six banks with four strips each, fades that move their levels,
 * and a sheet on which what the lamps show is drawn.
 */
public final class LampLoft {
    private static final int BANKS = 6;
    private static final int STRIPS = 4;
    private static final int TINTS = 0;
    private static final int TRIMS = 1;
    private static final int LEVELS = 2;
    private static final int KEYS = 3;

    private static final int DONE = 0;
    private static final int BAD = 1;
    private static final int MISSING = 2;
    private static final int OUTSIDE = 3;
    private static final int NEGATIVE = 4;
    private static final int LARGE = 5;
    private static final int FULL = 6;

    private static final int MOST_PLACES = 24;
    private static final int MOST_RIPPLES = 64;
    private static final int MOST_FADES = 16;
    private static final int MOST_FADE_STEP = 1000;
    private static final int MOST_ROWS_OR_CELLS = 12;
    private static final int HIGHEST_LEVEL = 8000000;
    private static final int NO_ROW = -1;

    private final Rack rack;
    private final Paper paper;
    private final Fade[] fades;
    private int running;
    private int reached;
    private int droppedAsMissing;
    private int droppedAsOutside;
    private int refusedAsMissing;
    private int refusedAsOutside;
    private int refusedAsNegative;
    private int lastStatus;
    /** What the latest look, measure or showing found: their own answer tells whether they were refused. */
    private int found;

    public LampLoft() {
        rack = new Rack();
        paper = new Paper();
        fades = new Fade[MOST_FADES];
    }

    public int hang(int bank, int strip, int n) {
        if (!isBank(bank) || !isStrip(strip)) {
            return leave(BAD, 0);
        }
        if (n > MOST_PLACES) {
            return leave(LARGE, 0);
        }
        if (n < 0) {
            return leave(counted(NEGATIVE), 0);
        }
        rack.replace(bank, strip, new int[n]);
        return leave(DONE, n);
    }

    public int strike(int bank, int strip) {
        if (!isBank(bank) || !isStrip(strip)) {
            return leave(BAD, 0);
        }
        boolean wasThere = rack.stripOf(bank, strip) != null;
        rack.replace(bank, strip, null);
        return leave(DONE, wasThere ? 1 : 0);
    }

    public int share(int bank, int strip, int from) {
        if (!isBank(bank) || !isStrip(strip) || !isBank(from)) {
            return leave(BAD, 0);
        }
        int[] shared = rack.stripOf(from, strip);
        rack.replace(bank, strip, shared);
        return leave(DONE, shared != null ? 1 : 0);
    }

    public int size(int bank, int strip) {
        if (!isBank(bank) || !isStrip(strip)) {
            return leave(BAD, 0);
        }
        return leaveFound(measure(bank, strip));
    }

    public int get(int bank, int strip, int i) {
        if (!isBank(bank) || !isStrip(strip)) {
            return leave(BAD, 0);
        }
        return leaveFound(look(bank, strip, i));
    }

    public int set(int bank, int strip, int i, int v) {
        if (!isBank(bank) || !isStrip(strip)) {
            return leave(BAD, 0);
        }
        int refusal = look(bank, strip, i);
        if (refusal == DONE) {
            refusal = put(bank, strip, i, v);
        }
        return leaveFound(refusal);
    }

    public int patch(int from, int i, int to, int j, int strips) {
        if (!isBank(from) || !isBank(to) || strips < 0 || strips >= STRIPS * STRIPS) {
            return leave(BAD, 0);
        }
        int refusal = look(from, strips / STRIPS, i);
        if (refusal == DONE) {
            refusal = put(to, strips % STRIPS, j, found);
        }
        return leaveFound(refusal);
    }

    public int ripple(int bank, int i, int by, int n, int step) {
        if (!isBank(bank) || n < 0 || n > MOST_RIPPLES) {
            return leave(BAD, 0);
        }
        // Bounding the step first keeps the sum with a level far from the ends of int.
        int rise = asLevel(step);
        for (int k = 0; k < n; k++) {
            int place = i + k * by;
            int refusal = look(bank, LEVELS, place);
            if (refusal != DONE) {
                return leave(refusal, k);
            }
            put(bank, LEVELS, place, found + rise);
        }
        return leave(DONE, n);
    }

    public int probe(int bank, int i) {
        if (!isBank(bank)) {
            return leave(BAD, 0);
        }
        int digits = 0;
        int weight = 1;
        for (int strip = 0; strip < STRIPS; strip++) {
            digits += weight * digitOf(look(bank, strip, i));
            weight *= 10;
        }
        return leave(DONE, digits);
    }

    public int poke(int bank, int i, int v) {
        if (!isBank(bank)) {
            return leave(BAD, 0);
        }
        int digits = 0;
        int weight = 1;
        for (int strip = 0; strip < STRIPS; strip++) {
            digits += weight * digitOf(put(bank, strip, i, v));
            weight *= 10;
        }
        return leave(DONE, digits);
    }

    public int shown(int bank, int i) {
        if (!isBank(bank)) {
            return leave(BAD, 0);
        }
        return leaveFound(findShown(bank, i));
    }

    public int lit(int bank) {
        if (!isBank(bank)) {
            return leave(BAD, 0);
        }
        int refusal = measure(bank, LEVELS);
        if (refusal != DONE) {
            return leave(refusal, 0);
        }
        int places = found;
        int lamps = 0;
        for (int i = 0; i < places; i++) {
            if (isLit(bank, i)) {
                lamps++;
            }
        }
        return leave(DONE, lamps);
    }

    public int fade(int bank, int i, int target, int step) {
        if (!isBank(bank) || step < 1 || step > MOST_FADE_STEP) {
            return leave(BAD, 0);
        }
        if (running >= MOST_FADES) {
            return leave(FULL, 0);
        }
        int refusal = look(bank, LEVELS, i);
        if (refusal != DONE) {
            return leave(refusal, 0);
        }
        fades[running] = new Fade(bank, i, asLevel(target), step);
        running++;
        return leave(DONE, running);
    }

    public int tick() {
        int kept = 0;
        for (int f = 0; f < running; f++) {
            Fade fade = fades[f];
            if (fade != null && runsOn(fade)) {
                fades[kept] = fade;
                kept++;
            }
        }
        running = kept;
        return leave(DONE, running);
    }

    public int sheet(int n, int m) {
        if (n > MOST_ROWS_OR_CELLS || m > MOST_ROWS_OR_CELLS) {
            return leave(LARGE, 0);
        }
        if (n < 0 || m < 0) {
            return leave(counted(NEGATIVE), 0);
        }
        int[][] rows = new int[n][];
        for (int i = 0; i < n; i++) {
            rows[i] = new int[m];
        }
        paper.replace(rows);
        return leave(DONE, n * m);
    }

    public int cell(int i, int j) {
        int refusal = counted(paper.refusalAt(i, j));
        return leave(refusal, refusal == DONE ? paper.numberAt(i, j) : 0);
    }

    public int tear(int i, int k) {
        int refusal = DONE;
        if (!paper.isThere()) {
            refusal = MISSING;
        } else if ((k != NO_ROW && !paper.hasRow(k)) || !paper.hasRow(i)) {
            refusal = OUTSIDE;
        }
        if (refusal != DONE) {
            return leave(counted(refusal), 0);
        }
        int[] row = k == NO_ROW ? null : paper.rowOf(k);
        paper.replaceRow(i, row);
        return leave(DONE, row != null ? 1 : 0);
    }

    public int draw(int bank, int i) {
        if (!isBank(bank)) {
            return leave(BAD, 0);
        }
        // No strip has a place behind the bound, so the loop always ends by a refusal.
        for (int lamp = 0; lamp <= MOST_PLACES; lamp++) {
            int refusal = drawLamp(bank, i, lamp);
            if (refusal != DONE) {
                return leave(refusal, lamp);
            }
        }
        return leave(DONE, MOST_PLACES);
    }

    public int status() {
        return lastStatus;
    }

    public int count(int what) {
        switch (what) {
            case 0: return refusedAsMissing;
            case 1: return refusedAsOutside;
            case 2: return refusedAsNegative;
            case 3: return running;
            case 4: return reached;
            case 5: return droppedAsMissing;
            case 6: return droppedAsOutside;
            case 7: return rack.stripsThere();
            case 8: return rack.placesSet();
            case 9: return paper.rowCount();
            case 10: return paper.cellsWritten();
            default: return 0;
        }
    }

    private int leave(int newStatus, int answer) {
        lastStatus = newStatus;
        return answer;
    }

    private int leaveFound(int refusal) {
        return leave(refusal, refusal == DONE ? found : 0);
    }

    /** Lets a refusal count, and hands it on. */
    private int counted(int refusal) {
        if (refusal == MISSING) {
            refusedAsMissing++;
        } else if (refusal == OUTSIDE) {
            refusedAsOutside++;
        } else if (refusal == NEGATIVE) {
            refusedAsNegative++;
        }
        return refusal;
    }

    /** LOOKS at a place: DONE, with the number found, or the refusal. */
    private int look(int bank, int strip, int i) {
        int refusal = rack.refusalAt(bank, strip, i);
        if (refusal == DONE) {
            found = rack.numberAt(bank, strip, i);
        }
        return counted(refusal);
    }

    /** SETS a place: DONE or the refusal; what was found before stays found. */
    private int put(int bank, int strip, int i, int v) {
        int refusal = rack.refusalAt(bank, strip, i);
        if (refusal == DONE) {
            rack.setAt(bank, strip, i, asNumber(strip, v));
        }
        return counted(refusal);
    }

    /** MEASURES a strip: DONE, with the length found, or the refusal. */
    private int measure(int bank, int strip) {
        int[] places = rack.stripOf(bank, strip);
        if (places == null) {
            return counted(MISSING);
        }
        found = places.length;
        return DONE;
    }

    /** Finds what a lamp SHOWS: DONE, with that found, or the first refusal. */
    private int findShown(int bank, int i) {
        int refusal = look(bank, KEYS, i);
        // A lamp that is off shows 0, which is the key that was just found.
        if (refusal != DONE || found == 0) {
            return refusal;
        }
        refusal = look(bank, LEVELS, i);
        if (refusal != DONE) {
            return refusal;
        }
        int level = found;
        refusal = look(bank, TRIMS, i);
        if (refusal != DONE) {
            return refusal;
        }
        int bright = level + found;
        refusal = look(bank, TINTS, i);
        if (refusal != DONE) {
            return refusal;
        }
        found = found % 2 == 0 ? bright : -bright;
        return DONE;
    }

    private int drawLamp(int bank, int row, int lamp) {
        int refusal = findShown(bank, lamp);
        if (refusal != DONE) {
            return refusal;
        }
        refusal = paper.refusalAt(row, lamp);
        if (refusal == DONE) {
            paper.write(row, lamp, found);
        }
        return counted(refusal);
    }

    private boolean isLit(int bank, int i) {
        if (look(bank, KEYS, i) != DONE || found == 0) {
            return false;
        }
        return look(bank, LEVELS, i) == DONE && found > 0;
    }

    /** Moves a fade's level by one step; whether the fade goes on running. */
    private boolean runsOn(Fade fade) {
        int refusal = look(fade.bank, LEVELS, fade.place);
        if (refusal != DONE) {
            countDropped(refusal);
            return false;
        }
        int level = fade.nextLevel(found);
        put(fade.bank, LEVELS, fade.place, level);
        if (level == fade.target) {
            reached++;
            return false;
        }
        return true;
    }

    private void countDropped(int refusal) {
        if (refusal == MISSING) {
            droppedAsMissing++;
        } else {
            droppedAsOutside++;
        }
    }

    private static boolean isBank(int bank) {
        return bank >= 0 && bank < BANKS;
    }

    private static boolean isStrip(int strip) {
        return strip >= 0 && strip < STRIPS;
    }

    private static int digitOf(int refusal) {
        if (refusal == MISSING) {
            return 1;
        }
        return refusal == OUTSIDE ? 2 : 0;
    }

    /** What a number becomes when it is SET in a strip of this kind. */
    private static int asNumber(int strip, int v) {
        switch (strip) {
            case TINTS: return v & 0xFFFF;
            case TRIMS: return (short) v;
            case LEVELS: return asLevel(v);
            default: return v & 1;
        }
    }

    private static int asLevel(int v) {
        return Math.max(-HIGHEST_LEVEL, Math.min(HIGHEST_LEVEL, v));
    }

    /** The strips of all banks; a missing one is null, a shared one stands there more than once. */
    private static final class Rack {
        private final int[][] strips;
        private int placesSet;

        Rack() {
            strips = new int[BANKS * STRIPS][];
        }

        int[] stripOf(int bank, int strip) {
            return strips[bank * STRIPS + strip];
        }

        void replace(int bank, int strip, int[] places) {
            strips[bank * STRIPS + strip] = places;
        }

        int refusalAt(int bank, int strip, int i) {
            int[] places = stripOf(bank, strip);
            if (places == null) {
                return MISSING;
            }
            return i >= 0 && i < places.length ? DONE : OUTSIDE;
        }

        /** Only where refusalAt is DONE. */
        int numberAt(int bank, int strip, int i) {
            return stripOf(bank, strip)[i];
        }

        /** Only where refusalAt is DONE. */
        void setAt(int bank, int strip, int i, int number) {
            stripOf(bank, strip)[i] = number;
            placesSet++;
        }

        int placesSet() {
            return placesSet;
        }

        int stripsThere() {
            int there = 0;
            for (int s = 0; s < strips.length; s++) {
                if (strips[s] != null) {
                    there++;
                }
            }
            return there;
        }
    }

    /** The place for the sheet, with null for no sheet; a row that is torn out is null. */
    private static final class Paper {
        private int[][] rows;
        private int cellsWritten;

        boolean isThere() {
            return rows != null;
        }

        void replace(int[][] newRows) {
            rows = newRows;
        }

        int rowCount() {
            return rows == null ? 0 : rows.length;
        }

        boolean hasRow(int i) {
            return i >= 0 && i < rowCount();
        }

        /** Only where hasRow. */
        int[] rowOf(int i) {
            return rows[i];
        }

        /** Only where hasRow. */
        void replaceRow(int i, int[] row) {
            rows[i] = row;
        }

        int refusalAt(int i, int j) {
            if (rows == null) {
                return MISSING;
            }
            if (!hasRow(i)) {
                return OUTSIDE;
            }
            int[] row = rows[i];
            if (row == null) {
                return MISSING;
            }
            return j >= 0 && j < row.length ? DONE : OUTSIDE;
        }

        /** Only where refusalAt is DONE. */
        int numberAt(int i, int j) {
            return rows[i][j];
        }

        /** Only where refusalAt is DONE. */
        void write(int i, int j, int number) {
            rows[i][j] = number;
            cellsWritten++;
        }

        int cellsWritten() {
            return cellsWritten;
        }
    }

    private static final class Fade {
        private final int bank;
        private final int place;
        private final int target;
        private final int step;

        Fade(int bank, int place, int target, int step) {
            this.bank = bank;
            this.place = place;
            this.target = target;
            this.step = step;
        }

        int nextLevel(int level) {
            if (Math.abs(target - level) <= step) {
                return target;
            }
            return level < target ? level + step : level - step;
        }
    }
}
