/**
 * The document once more, for comparison, written in another way: the strips are arrays of the very
 * types whose stores do what SET asks, and the machine's own exceptions are the refusals.
 */
final class LoftModel {
    private static final class Refused extends RuntimeException {
        private static final long serialVersionUID = 1L;
        final int kind;

        Refused(int kind) {
            super(null, null, false, false);
            this.kind = kind;
        }
    }

    private final char[][] tints = new char[6][];
    private final short[][] trims = new short[6][];
    private final int[][] levels = new int[6][];
    private final boolean[][] keys = new boolean[6][];
    private int[][] paper = null;
    private final java.util.ArrayList<int[]> fades = new java.util.ArrayList<>();
    private final int[] counts = new int[11];
    private int status = 0;

    /** Any call of the face but status() and count(), by its name. */
    int call(String name, int... a) {
        status = 0;
        if (isBad(name, a)) {
            status = 1;
            return 0;
        }
        switch (name) {
            case "hang": return hang(a[0], a[1], a[2]);
            case "strike": return strike(a[0], a[1]);
            case "share": return share(a[0], a[1], a[2]);
            case "ripple": return ripple(a[0], a[1], a[2], a[3], a[4]);
            case "probe": return digits(a[0], a[1], false, 0);
            case "poke": return digits(a[0], a[1], true, a[2]);
            case "lit": return lit(a[0]);
            case "fade": return fade(a[0], a[1], a[2], a[3]);
            case "tick": return tick();
            case "sheet": return sheet(a[0], a[1]);
            case "draw": return draw(a[0], a[1]);
            default: return refusable(name, a);
        }
    }

    int status() {
        return status;
    }

    int count(int what) {
        switch (what) {
            case 3: return fades.size();
            case 7: return stripsThere();
            case 9: return paper == null ? 0 : paper.length;
            default: return what >= 0 && what <= 10 ? counts[what] : 0;
        }
    }

    private static boolean within(int v, int low, int high) {
        return low <= v && v <= high;
    }

    private static boolean isBad(String name, int[] a) {
        switch (name) {
            case "tick": case "sheet": case "cell": case "tear": return false;
            case "patch": return !within(a[0], 0, 5) || !within(a[2], 0, 5) || !within(a[4], 0, 15);
            case "share": return !within(a[0], 0, 5) || !within(a[1], 0, 3) || !within(a[2], 0, 5);
            case "hang": case "strike": case "size": case "get": case "set":
                return !within(a[0], 0, 5) || !within(a[1], 0, 3);
            case "ripple": return !within(a[0], 0, 5) || !within(a[3], 0, 64);
            case "fade": return !within(a[0], 0, 5) || !within(a[3], 1, 1000);
            default: return !within(a[0], 0, 5);
        }
    }

    /** The calls that a refusal ends with the answer 0. */
    private int refusable(String name, int[] a) {
        try {
            switch (name) {
                case "size": return measure(a[0], a[1]);
                case "get": return look(a[0], a[1], a[2]);
                case "set": {
                    int stood = look(a[0], a[1], a[2]);
                    put(a[0], a[1], a[2], a[3]);
                    return stood;
                }
                case "patch": {
                    int number = look(a[0], a[4] >> 2, a[1]);
                    put(a[2], a[4] & 3, a[3], number);
                    return number;
                }
                case "shown": return show(a[0], a[1]);
                case "cell": return lookAtCell(a[0], a[1]);
                case "tear": return tear(a[0], a[1]);
                default: throw new IllegalStateException(name);
            }
        } catch (Refused refused) {
            status = refused.kind;
            return 0;
        }
    }

    private Refused refused(RuntimeException by) {
        int kind = by instanceof NullPointerException ? 2
            : by instanceof ArrayIndexOutOfBoundsException ? 3
            : by instanceof NegativeArraySizeException ? 4 : -1;
        if (kind < 0) {
            throw by;
        }
        counts[kind - 2]++;
        return new Refused(kind);
    }

    private int look(int bank, int strip, int i) {
        try {
            switch (strip) {
                case 0: return tints[bank][i];
                case 1: return trims[bank][i];
                case 2: return levels[bank][i];
                default: return keys[bank][i] ? 1 : 0;
            }
        } catch (RuntimeException by) {
            throw refused(by);
        }
    }

    private void put(int bank, int strip, int i, long v) {
        try {
            switch (strip) {
                case 0: tints[bank][i] = (char) v; break;
                case 1: trims[bank][i] = (short) v; break;
                case 2: levels[bank][i] = nearestLevel(v); break;
                default: keys[bank][i] = v % 2 != 0; break;
            }
        } catch (RuntimeException by) {
            throw refused(by);
        }
        counts[8]++;
    }

    private static int nearestLevel(long v) {
        return v > 8000000L ? 8000000 : v < -8000000L ? -8000000 : (int) v;
    }

    private Object[] stripsOf(int strip) {
        return strip == 0 ? tints : strip == 1 ? trims : strip == 2 ? levels : keys;
    }

    private int measure(int bank, int strip) {
        try {
            return java.lang.reflect.Array.getLength(stripsOf(strip)[bank]);
        } catch (RuntimeException by) {
            throw refused(by);
        }
    }

    private int stripsThere() {
        int there = 0;
        for (int strip = 0; strip < 4; strip++) {
            for (Object places : stripsOf(strip)) {
                there += places == null ? 0 : 1;
            }
        }
        return there;
    }

    private int hang(int bank, int strip, int n) {
        if (n > 24) {
            status = 5;
            return 0;
        }
        try {
            switch (strip) {
                case 0: tints[bank] = new char[n]; break;
                case 1: trims[bank] = new short[n]; break;
                case 2: levels[bank] = new int[n]; break;
                default: keys[bank] = new boolean[n]; break;
            }
            return n;
        } catch (RuntimeException by) {
            status = refused(by).kind;
            return 0;
        }
    }

    private int strike(int bank, int strip) {
        Object struck = stripsOf(strip)[bank];
        stripsOf(strip)[bank] = null;
        return struck == null ? 0 : 1;
    }

    private int share(int bank, int strip, int from) {
        Object[] all = stripsOf(strip);
        all[bank] = all[from];
        return all[bank] == null ? 0 : 1;
    }

    private int ripple(int bank, int i, int by, int n, int step) {
        int done = 0;
        int place = i;
        try {
            while (done < n) {
                put(bank, 2, place, (long) look(bank, 2, place) + nearestLevel(step));
                done++;
                place += by;
            }
        } catch (Refused refused) {
            status = refused.kind;
        }
        return done;
    }

    private int digits(int bank, int i, boolean setting, int v) {
        int answer = 0;
        int[] weights = {1, 10, 100, 1000};
        for (int strip = 0; strip < 4; strip++) {
            try {
                if (setting) {
                    put(bank, strip, i, v);
                } else {
                    look(bank, strip, i);
                }
            } catch (Refused refused) {
                answer += weights[strip] * (refused.kind == 2 ? 1 : 2);
            }
        }
        return answer;
    }

    private int show(int bank, int i) {
        if (look(bank, 3, i) == 0) {
            return 0;
        }
        int sum = look(bank, 2, i) + look(bank, 1, i);
        return (look(bank, 0, i) & 1) == 1 ? -sum : sum;
    }

    private int lit(int bank) {
        int places;
        try {
            places = measure(bank, 2);
        } catch (Refused refused) {
            status = refused.kind;
            return 0;
        }
        int lamps = 0;
        for (int i = 0; i < places; i++) {
            try {
                lamps += look(bank, 3, i) == 1 && look(bank, 2, i) > 0 ? 1 : 0;
            } catch (Refused refused) {
                continue;
            }
        }
        return lamps;
    }

    private int fade(int bank, int i, int target, int step) {
        if (fades.size() == 16) {
            status = 6;
            return 0;
        }
        try {
            look(bank, 2, i);
        } catch (Refused refused) {
            status = refused.kind;
            return 0;
        }
        fades.add(new int[] {bank, i, nearestLevel(target), step});
        return fades.size();
    }

    private int tick() {
        java.util.Iterator<int[]> each = fades.iterator();
        while (each.hasNext()) {
            int[] fade = each.next();
            try {
                int level = look(fade[0], 2, fade[1]);
                int way = Math.max(-fade[3], Math.min(fade[3], fade[2] - level));
                put(fade[0], 2, fade[1], level + way);
                if (level + way == fade[2]) {
                    counts[4]++;
                    each.remove();
                }
            } catch (Refused refused) {
                counts[refused.kind + 3]++;
                each.remove();
            }
        }
        return fades.size();
    }

    private int sheet(int n, int m) {
        if (n > 12 || m > 12) {
            status = 5;
            return 0;
        }
        try {
            paper = new int[n][m];
            return n * m;
        } catch (RuntimeException by) {
            status = refused(by).kind;
            return 0;
        }
    }

    private int lookAtCell(int i, int j) {
        try {
            return paper[i][j];
        } catch (RuntimeException by) {
            throw refused(by);
        }
    }

    private int tear(int i, int k) {
        try {
            int[][] rows = java.util.Objects.requireNonNull(paper);
            rows[i] = k == -1 ? null : rows[k];
            return rows[i] == null ? 0 : 1;
        } catch (RuntimeException by) {
            throw refused(by);
        }
    }

    private int draw(int bank, int i) {
        int j = 0;
        try {
            while (true) {
                int number = show(bank, j);
                writeCell(i, j, number);
                j++;
            }
        } catch (Refused refused) {
            status = refused.kind;
            return j;
        }
    }

    private void writeCell(int i, int j, int number) {
        try {
            paper[i][j] = number;
        } catch (RuntimeException by) {
            throw refused(by);
        }
        counts[10]++;
    }
}
