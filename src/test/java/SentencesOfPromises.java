import java.util.Set;

/** A test for each sentence of the document's promises. */
final class SentencesOfPromises extends Sentences {
    private static final String HANG = "Promise 2: hang";
    private static final String SHARE = "Promise 4: share";
    private static final String SIZE = "Promise 5: size";
    private static final String GET = "Promise 6: get";
    private static final String SET = "Promise 7: set";
    private static final String PATCH = "Promise 8: patch";
    private static final String RIPPLE = "Promise 9: ripple";
    private static final String PROBE = "Promise 10: probe";
    private static final String POKE = "Promise 11: poke";
    private static final String SHOWN = "Promise 12: shown";
    private static final String FADE = "Promise 14: fade";
    private static final String TICK = "Promise 15: tick";
    private static final String SHEET = "Promise 16: sheet";
    private static final String CELL = "Promise 17: cell";
    private static final String TEAR = "Promise 18: tear";
    private static final String DRAW = "Promise 19: draw";

    private static final String[] NO_PLACES_OF_FOUR = {"4", "-1", "24", "MIN", "MAX"};

    SentencesOfPromises(Due due, Set<String> held) {
        super(due, held);
    }

    void hold() {
        newObject();
        hangsANewStrip();
        hangsNoneLargeOrNegative();
        strikes();
        shares();
        sharesFromNoBadBank();
        measures();
        measuresNoneMissing();
        looks();
        looksRefused();
        sets();
        setsRefused();
        patches();
        patchesByStrips();
        patchesRefused();
        patchesToNoBadBank();
        ripples();
        ripplesUntilRefused();
        ripplesRefused();
        probes();
        probesWithStatusZero();
        pokes();
        pokesWithStatusZero();
        shows();
        showsRefused();
        lit();
        beginsFades();
        beginsNoneByABadStep();
        beginsNoneWhenFull();
        beginsNoneRefused();
        ticksInOrder();
        ticksAndDrops();
        ticksNearer();
        ticksAndTellsHowManyRun();
        ticksWithStatusZero();
        newSheet();
        noSheetLargeOrNegative();
        looksAtCells();
        looksAtCellsRefused();
        tears();
        tearsAndTells();
        tearsRefused();
        draws();
        drawsUntilRefused();
        drawsRefused();
        status();
        count();
    }

    private void wholeBank(int bank, int places) {
        for (int strip = 0; strip <= 3; strip++) {
            ask("hang(" + bank + ", " + strip + ", " + places + ")");
        }
    }

    private void newObject() {
        sentence("Promise 1: A new object", "All STRIPS are MISSING, no SHEET, no FADES.");
        counts(7, 0);
        counts(9, 0);
        counts(3, 0);
        for (int bank = 0; bank <= 5; bank++) {
            done("probe(" + bank + ", 0)", 1111);
        }
        refused("cell(0, 0)", MISSING);
        refused("tear(0, -1)", MISSING);
        done("tick()", 0);
        counts(4, 0);
        counts(5, 0);
        counts(6, 0);
    }

    private void hangsANewStrip() {
        sentence(HANG, "The bank's STRIP is a new one, with n PLACES, 0 in each (other banks that had the same one keep that): n.");
        for (int strip = 0; strip <= 3; strip++) {
            newDesk();
            for (int n : new int[] {24, 0, 1, 24}) {
                done("hang(1, " + strip + ", " + n + ")", n);
                done("size(1, " + strip + ")", n);
                for (int i = 0; i < n; i++) {
                    done("get(1, " + strip + ", " + i + ")", 0);
                    ask("set(1, " + strip + ", " + i + ", 1)");
                }
                is("get(1, " + strip + ", " + n + ")", 0, OUTSIDE);
            }
            newDesk();
            ask("hang(1, " + strip + ", 2)", "share(2, " + strip + ", 1)", "set(1, " + strip + ", 1, 1)");
            done("hang(1, " + strip + ", 2)", 2);
            done("get(1, " + strip + ", 1)", 0);
            done("get(2, " + strip + ", 1)", 1);
            ask("set(1, " + strip + ", 0, 1)");
            done("get(2, " + strip + ", 0)", 0);
            done("hang(1, " + strip + ", 0)", 0);
            done("size(2, " + strip + ")", 2);
        }
        counts(8, 2);
    }

    private void hangsNoneLargeOrNegative() {
        sentence(HANG, "LARGE: n is above 24; NEGATIVE: n is below 0 (it counts): the STRIP stays.");
        for (int strip = 0; strip <= 3; strip++) {
            newDesk();
            ask("hang(1, " + strip + ", 2)", "share(2, " + strip + ", 1)", "set(1, " + strip + ", 1, 1)");
            for (String bank : new String[] {"1", "3"}) {
                refused("hang(" + bank + ", " + strip + ", ?)", new String[] {"25", "26", "MAX"}, LARGE);
                refused("hang(" + bank + ", " + strip + ", ?)", new String[] {"-1", "-24", "-25", "MIN"}, NEGATIVE);
            }
            counts(2, 8);
            done("get(1, " + strip + ", 1)", 1);
            refused("size(3, " + strip + ")", MISSING);
            done("hang(1, " + strip + ", 24)", 24);
        }
    }

    private void strikes() {
        sentence("Promise 3: strike", "The bank's STRIP is MISSING then (other banks that had the same one keep it): 1 if it was there, else 0.");
        for (int strip = 0; strip <= 3; strip++) {
            newDesk();
            done("strike(1, " + strip + ")", 0);
            counts(0, 0);
            ask("hang(1, " + strip + ", 2)", "share(2, " + strip + ", 1)", "set(1, " + strip + ", 1, 1)");
            done("strike(1, " + strip + ")", 1);
            refused("size(1, " + strip + ")", MISSING);
            done("get(2, " + strip + ", 1)", 1);
            done("strike(1, " + strip + ")", 0);
            done("strike(2, " + strip + ")", 1);
            refused("get(2, " + strip + ", 1)", MISSING);
            ask("hang(1, " + strip + ", 0)");
            done("strike(1, " + strip + ")", 1);
            counts(7, 0);
        }
    }

    private void shares() {
        sentence(SHARE, "The bank's STRIP is then the very one that the bank from has there, or MISSING, if that is: 1 if it is there then, else 0.");
        for (int strip = 0; strip <= 3; strip++) {
            newDesk();
            done("share(1, " + strip + ", 0)", 0);
            done("share(1, " + strip + ", 1)", 0);
            ask("hang(0, " + strip + ", 2)", "hang(1, " + strip + ", 5)");
            done("share(1, " + strip + ", 0)", 1);
            done("size(1, " + strip + ")", 2);
            ask("set(1, " + strip + ", 0, 1)");
            done("get(0, " + strip + ", 0)", 1);
            done("share(0, " + strip + ", 0)", 1);
            done("get(0, " + strip + ", 0)", 1);
            done("share(0, " + strip + ", 5)", 0);
            refused("size(0, " + strip + ")", MISSING);
            done("get(1, " + strip + ", 0)", 1);
            ask("hang(4, " + strip + ", 0)");
            done("share(1, " + strip + ", 4)", 1);
            done("size(1, " + strip + ")", 0);
            counts(7, 2);
            counts(0, 1);
        }
        newDesk();
        wholeBank(0, 1);
        done("share(1, 2, 0)", 1);
        done("probe(1, 0)", 1011);
    }

    private void sharesFromNoBadBank() {
        sentence(SHARE, "BAD also: from is not 0 .. 5.");
        furnishedDesk();
        refused("share(1, 2, ?)", NO_BANKS, BAD);
        refused("share(4, 2, ?)", NO_BANKS, BAD);
        done("share(4, 2, 0)", 1);
        done("share(4, 0, 5)", 1);
    }

    private void measures() {
        sentence(SIZE, "How many PLACES the bank's STRIP has: it is MEASURED.");
        furnishedDesk();
        done("size(0, 0)", 4);
        done("size(1, 2)", 2);
        done("size(1, 3)", 4);
        done("size(2, 2)", 0);
        done("size(2, 3)", 24);
        done("size(5, 0)", 1);
        leavesAllAsItWas("size(0, 0)", NONE_COUNTS, 0);
    }

    private void measuresNoneMissing() {
        sentence(SIZE, "MISSING.");
        furnishedDesk();
        refused("size(4, ?)", new String[] {"0", "1", "2", "3"}, MISSING);
        counts(0, 4);
    }

    private void looks() {
        sentence(GET, "PLACE i is LOOKED at: its NUMBER.");
        furnishedDesk();
        done("get(0, 0, 0)", 7);
        done("get(0, 0, 3)", 0);
        done("get(0, 1, 1)", -5);
        done("get(3, 2, 0)", 300);
        done("get(3, 2, 1)", -40);
        done("get(1, 3, 1)", 1);
        leavesAllAsItWas("get(0, 2, 0)", NONE_COUNTS, 0);
    }

    private void looksRefused() {
        sentence(GET, "MISSING, OUTSIDE.");
        furnishedDesk();
        for (int strip = 0; strip <= 3; strip++) {
            refused("get(0, " + strip + ", ?)", NO_PLACES_OF_FOUR, OUTSIDE);
            refused("get(4, " + strip + ", ?)", new String[] {"0", "-1", "MAX"}, MISSING);
        }
        refused("get(2, 2, 0)", OUTSIDE);
    }

    private void sets() {
        sentence(SET, "PLACE i is LOOKED at, then v is SET there: the NUMBER that stood there.");
        for (int strip = 0; strip <= 3; strip++) {
            newDesk();
            ask("hang(0, " + strip + ", 24)");
            for (String i : new String[] {"0", "23"}) {
                done("set(0, " + strip + ", " + i + ", -1)", 0);
                done("set(0, " + strip + ", " + i + ", 2)", new int[] {65535, -1, -1, 1}[strip]);
                done("set(0, " + strip + ", " + i + ", 2)", new int[] {2, 2, 2, 0}[strip]);
                done("get(0, " + strip + ", " + i + ")", new int[] {2, 2, 2, 0}[strip]);
            }
            done("get(0, " + strip + ", 1)", 0);
            done("get(0, " + strip + ", 22)", 0);
            counts(8, 6);
        }
    }

    private void setsRefused() {
        sentence(SET, "MISSING, OUTSIDE (of the LOOK).");
        furnishedDesk();
        for (int strip = 0; strip <= 3; strip++) {
            refused("set(0, " + strip + ", ?, 9)", NO_PLACES_OF_FOUR, OUTSIDE);
            refused("set(4, " + strip + ", ?, 9)", new String[] {"0", "-1", "MAX"}, MISSING);
        }
        refused("set(2, 2, 0, 9)", OUTSIDE);
    }

    private void patches() {
        sentence(PATCH, "PLACE i of the bank from is LOOKED at, then its NUMBER is SET at PLACE j of the bank to: that NUMBER as it was LOOKED at.");
        ask("hang(1, 2, 24)", "hang(3, 0, 24)", "set(1, 2, 23, -70000)");
        done("patch(1, 23, 3, 0, 8)", -70000);
        done("get(3, 0, 0)", 61072);
        done("patch(1, 23, 3, 23, 8)", -70000);
        done("get(3, 0, 23)", 61072);
        done("get(3, 0, 22)", 0);
        done("get(1, 2, 23)", -70000);
        done("patch(3, 23, 1, 0, 2)", 61072);
        done("get(1, 2, 0)", 61072);
        counts(8, 4);
        done("patch(1, 0, 1, 0, 10)", 61072);
        counts(8, 5);
        ask("share(2, 2, 1)");
        done("patch(2, 23, 1, 5, 10)", -70000);
        done("get(2, 2, 5)", -70000);
    }

    private void patchesByStrips() {
        sentence(PATCH, "strips is 4 * the strip that is LOOKED at + the one that is SET (0 .. 15, else BAD).");
        for (int strips = 0; strips <= 15; strips++) {
            newDesk();
            ask("hang(0, " + strips / 4 + ", 1)", "set(0, " + strips / 4 + ", 0, 1)", "hang(1, " + strips % 4 + ", 1)");
            done("patch(0, 0, 1, 0, " + strips + ")", 1);
            done("get(1, " + strips % 4 + ", 0)", 1);
        }
        furnishedDesk();
        refused("patch(0, 0, 0, 1, ?)", new String[] {"-1", "16", "17", "MIN", "MAX"}, BAD);
    }

    private void patchesRefused() {
        sentence(PATCH, "MISSING, OUTSIDE: of the LOOK, else of the SET.");
        furnishedDesk();
        refused("patch(4, ?, 0, 0, 10)", new String[] {"0", "-1", "MAX"}, MISSING);
        refused("patch(0, ?, 1, 0, 10)", NO_PLACES_OF_FOUR, OUTSIDE);
        refused("patch(0, 0, 4, ?, 10)", new String[] {"0", "-1", "MAX"}, MISSING);
        refused("patch(0, 0, 1, ?, 10)", new String[] {"2", "-1", "MIN", "MAX"}, OUTSIDE);
        refused("patch(0, 0, 2, 0, 10)", OUTSIDE);
        refused("patch(2, 0, 0, 0, 10)", OUTSIDE);
        furnishedDesk();
        refused("patch(4, 0, 1, 2, 10)", MISSING);
        refused("patch(0, 4, 4, 0, 10)", OUTSIDE);
        refused("patch(4, 0, 4, 0, 10)", MISSING);
        refused("patch(0, 4, 0, 4, 10)", OUTSIDE);
        counts(0, 2);
        counts(1, 1 + 2);
    }

    private void patchesToNoBadBank() {
        sentence(PATCH, "BAD also: to is not 0 .. 5.");
        furnishedDesk();
        refused("patch(0, 0, ?, 0, 10)", NO_BANKS, BAD);
        refused("patch(4, 0, ?, 0, 10)", NO_BANKS, BAD);
    }

    private void ripples() {
        sentence(RIPPLE, "n times (0 .. 64, else BAD), for k = 0, 1, ..: the LEVEL at PLACE i + k * by is LOOKED at, then it and the step are SET there (a step counts as the nearest one of -8000000 .. 8000000).");
        furnishedDesk();
        refused("ripple(0, 0, 0, ?, 1)", new String[] {"-1", "65", "MIN", "MAX"}, BAD);
        leavesAllAsItWas("ripple(0, 0, 1, 0, 1)", NONE_COUNTS, 0);
        leavesAllAsItWas("ripple(4, 0, 1, 0, 1)", NONE_COUNTS, 0);
        leavesAllAsItWas("ripple(0, MIN, 1, 0, 1)", NONE_COUNTS, 0);
        done("ripple(4, -1, 1, 0, 1)", 0);
        newDesk();
        ask("hang(0, 2, 24)");
        done("ripple(0, 7, 0, 64, 3)", 64);
        done("get(0, 2, 7)", 192);
        done("ripple(0, 0, 1, 24, 2)", 24);
        done("get(0, 2, 0)", 2);
        done("get(0, 2, 7)", 194);
        done("get(0, 2, 23)", 2);
        done("ripple(0, 23, -23, 2, -5)", 2);
        done("get(0, 2, 23)", -3);
        done("get(0, 2, 0)", -3);
        done("get(0, 2, 22)", 2);
        counts(8, 64 + 24 + 2);
        newDesk();
        ask("hang(0, 2, 2)");
        for (String step : new String[] {"8000000", "8000001", "16000000", "MAX"}) {
            ask("set(0, 2, 1, -8000000)");
            done("ripple(0, 1, 0, 1, " + step + ")", 1);
            done("get(0, 2, 1)", 0);
            done("ripple(0, 1, 0, 1, " + step + ")", 1);
            done("ripple(0, 1, 0, 1, " + step + ")", 1);
            done("get(0, 2, 1)", 8000000);
        }
        for (String step : new String[] {"-8000000", "-8000001", "-16000000", "MIN"}) {
            ask("set(0, 2, 1, 8000000)");
            done("ripple(0, 1, 0, 1, " + step + ")", 1);
            done("get(0, 2, 1)", 0);
            done("ripple(0, 1, 0, 1, " + step + ")", 1);
            done("ripple(0, 1, 0, 1, " + step + ")", 1);
            done("get(0, 2, 1)", -8000000);
        }
    }

    private void ripplesUntilRefused() {
        sentence(RIPPLE, "The first refused LOOK ends it; what was done ahead stays: how many were SET, whatever the STATUS.");
        ask("hang(0, 2, 4)");
        is("ripple(0, 1, 2, 64, 5)", 2, OUTSIDE);
        is("ripple(0, 3, -1, 64, 7)", 4, OUTSIDE);
        int[] stands = {7, 12, 7, 12};
        for (int i = 0; i < 4; i++) {
            done("get(0, 2, " + i + ")", stands[i]);
        }
        done("ripple(0, 3, -1, 4, -7)", 4);
        is("ripple(0, 3, -1, 5, 7)", 4, OUTSIDE);
        counts(1, 3);
        counts(8, 2 + 4 + 4 + 4);
    }

    private void ripplesRefused() {
        sentence(RIPPLE, "MISSING, OUTSIDE: of the LOOK that ended it.");
        furnishedDesk();
        refused("ripple(4, ?, 1, 9, 5)", new String[] {"0", "-1", "MAX"}, MISSING);
        refused("ripple(0, ?, -1, 9, 5)", NO_PLACES_OF_FOUR, OUTSIDE);
        refused("ripple(2, 0, 0, 1, 5)", OUTSIDE);
        is("ripple(1, 0, 1, 9, 5)", 2, OUTSIDE);
    }

    private void probes() {
        sentence(PROBE, "PLACE i of TINTS, TRIMS, LEVELS, KEYS is LOOKED at, one behind the other, all four: 1000 for KEYS, 100 for LEVELS, 10 for TRIMS, 1 for TINTS, each times 0 if that LOOK was done, 1 if it was refused as MISSING, 2 as OUTSIDE.");
        // Each strip is MISSING, has no PLACE 1, or has it: all 81 desks.
        for (int code = 0; code < 81; code++) {
            newDesk();
            int[] told = digitsOf(code);
            done("probe(3, 1)", 1000 * told[3] + 100 * told[2] + 10 * told[1] + told[0]);
            counts(0, howMany(told, 1));
            counts(1, howMany(told, 2));
            counts(8, 0);
        }
        furnishedDesk();
        done("probe(0, 3)", 0);
        for (String i : NO_PLACES_OF_FOUR) {
            done("probe(0, " + i + ")", 2222);
            done("probe(4, " + i + ")", 1111);
        }
        leavesAllAsItWas("probe(0, 0)", NONE_COUNTS, 0);
    }

    /** Hangs bank 3 so that PLACE 1 of its strips gives these digits. */
    private int[] digitsOf(int code) {
        int[] told = {code % 3, code / 3 % 3, code / 9 % 3, code / 27};
        for (int strip = 0; strip <= 3; strip++) {
            if (told[strip] != 1) {
                ask("hang(3, " + strip + ", " + (told[strip] == 0 ? 2 : 1) + ")");
            }
        }
        return told;
    }

    private static int howMany(int[] digits, int digit) {
        int many = 0;
        for (int d : digits) {
            many += d == digit ? 1 : 0;
        }
        return many;
    }

    private void probesWithStatusZero() {
        sentence(PROBE, "(STATUS 0.)");
        is("size(0, 0)", 0, MISSING);
        done("probe(0, 0)", 1111);
        ask("hang(0, 3, 0)", "size(0, 0)");
        done("probe(0, 0)", 2111);
        refused("probe(?, 0)", NO_BANKS, BAD);
    }

    private void pokes() {
        sentence(POKE, "v is SET at PLACE i of TINTS, TRIMS, LEVELS, KEYS, one behind the other, all four, where that is not refused: told as by probe().");
        int[] becomes = {60927, -4609, -8000000, 1};
        for (int code = 0; code < 81; code++) {
            newDesk();
            int[] told = digitsOf(code);
            done("poke(3, 1, -8000001)", 1000 * told[3] + 100 * told[2] + 10 * told[1] + told[0]);
            counts(0, howMany(told, 1));
            counts(1, howMany(told, 2));
            counts(8, howMany(told, 0));
            for (int strip = 0; strip <= 3; strip++) {
                if (told[strip] == 0) {
                    done("get(3, " + strip + ", 1)", becomes[strip]);
                }
                is("get(3, " + strip + ", 0)", 0, told[strip] == 1 ? MISSING : DONE);
            }
        }
        furnishedDesk();
        for (String i : NO_PLACES_OF_FOUR) {
            leavesAllAsItWas("poke(0, " + i + ", 1)", 1, 4);
            leavesAllAsItWas("poke(4, " + i + ", 1)", 0, 4);
        }
    }

    private void pokesWithStatusZero() {
        sentence(POKE, "(STATUS 0.)");
        is("size(0, 0)", 0, MISSING);
        done("poke(0, 0, 1)", 1111);
        ask("hang(0, 3, 0)", "size(0, 0)");
        done("poke(0, 0, 1)", 2111);
        refused("poke(?, 0, 1)", NO_BANKS, BAD);
    }

    private void shows() {
        sentence(SHOWN, "What lamp i of the bank SHOWS: its KEY is LOOKED at: 0 if that is 0, and nothing else is LOOKED at; else its LEVEL, its TRIM, its TINT are, in this order: LEVEL and TRIM together, or that turned to the other sign, if the TINT is odd.");
        ask("hang(0, 3, 1)");
        leavesAllAsItWas("shown(0, 0)", NONE_COUNTS, 0);
        done("shown(0, 0)", 0);
        newDesk();
        wholeBank(0, 24);
        ask("set(0, 2, 23, 500)", "set(0, 1, 23, -20)", "set(0, 0, 23, 1)");
        done("shown(0, 23)", 0);
        ask("set(0, 3, 23, 1)");
        done("shown(0, 23)", -480);
        ask("set(0, 0, 23, 65534)");
        done("shown(0, 23)", 480);
        ask("set(0, 0, 23, 65535)");
        done("shown(0, 23)", -480);
        ask("set(0, 2, 23, -500)");
        done("shown(0, 23)", 520);
        ask("set(0, 2, 23, 8000000)", "set(0, 1, 23, 32767)");
        done("shown(0, 23)", -8032767);
        ask("set(0, 2, 23, -8000000)", "set(0, 1, 23, -32768)");
        done("shown(0, 23)", 8032768);
        ask("set(0, 0, 23, 0)");
        done("shown(0, 23)", -8032768);
        done("shown(0, 22)", 0);
        leavesAllAsItWas("shown(0, 23)", NONE_COUNTS, 0);
    }

    private void showsRefused() {
        sentence(SHOWN, "MISSING, OUTSIDE: of the first refused LOOK, which ends it.");
        // The strips in the order in which they are LOOKED at: each one's refusal hides all those behind it.
        int[] order = {3, 2, 1, 0};
        for (int first = 0; first < 4; first++) {
            for (int behind = 0; behind < 3; behind++) {
                newDesk();
                for (int o = 0; o < 4; o++) {
                    hangFor(order[o], o < first ? 0 : o == first ? 1 : behind);
                }
                refused("shown(3, 1)", MISSING);
                newDesk();
                for (int o = 0; o < 4; o++) {
                    hangFor(order[o], o < first ? 0 : o == first ? 2 : behind);
                }
                refused("shown(3, 1)", OUTSIDE);
            }
        }
        furnishedDesk();
        refused("shown(0, ?)", NO_PLACES_OF_FOUR, OUTSIDE);
        refused("shown(4, ?)", NO_PLACES_OF_FOUR, MISSING);
        refused("shown(1, 0)", MISSING);
        done("shown(1, 2)", 0);
    }

    /** Hangs a strip of bank 3 with a 1 at PLACE 1 (digit 0), leaves it MISSING (1), or hangs it without that PLACE (2). */
    private void hangFor(int strip, int digit) {
        if (digit == 0) {
            ask("hang(3, " + strip + ", 2)", "set(3, " + strip + ", 1, 1)");
        } else if (digit == 2) {
            ask("hang(3, " + strip + ", 1)");
        }
    }

    private void lit() {
        sentence("Promise 13: lit", "How many lamps of the bank are lit: its LEVELS are MEASURED (MISSING); for each of their PLACES, from 0 on, the KEY is LOOKED at: if that is refused, or it is 0, the lamp is not lit; else it is, if the LEVEL is above 0.");
        ask("hang(0, 3, 2)", "set(0, 3, 0, 1)");
        refused("lit(0)", MISSING);
        refused("lit(1)", MISSING);
        ask("hang(0, 2, 0)");
        done("lit(0)", 0);
        counts(0, 2);
        counts(1, 0);
        ask("hang(0, 2, 4)");
        for (int[] level : new int[][] {{1, 1}, {0, 0}, {-1, 0}, {8000000, 1}, {-8000000, 0}}) {
            ask("set(0, 2, 0, " + level[0] + ")", "set(0, 2, 1, 5)", "set(0, 2, 3, 5)");
            leavesAllAsItWas("lit(0)", 1, 2);
            done("lit(0)", level[1]);
        }
        ask("strike(0, 3)");
        leavesAllAsItWas("lit(0)", 0, 4);
        done("lit(0)", 0);
        newDesk();
        ask("hang(0, 2, 24)", "hang(0, 3, 24)", "ripple(0, 0, 1, 24, 1)");
        for (int i = 0; i < 24; i++) {
            done("lit(0)", i);
            ask("set(0, 3, " + i + ", 1)");
        }
        done("lit(0)", 24);
        ask("hang(0, 2, 1)", "set(0, 2, 0, 1)");
        done("lit(0)", 1);
        counts(1, 0);
        counts(0, 0);
    }

    private void beginsFades() {
        sentence(FADE, "A FADE begins, behind all others: the LEVEL at PLACE i is LOOKED at, and if that is not refused it runs, to the target (as it would be SET) by the step: how many run then.");
        ask("hang(0, 2, 24)");
        for (int f = 1; f <= 16; f++) {
            done("fade(0, " + (24 - f) + ", 5, 1)", f);
            counts(3, f);
        }
        counts(8, 0);
        newDesk();
        ask("hang(0, 2, 1)", "fade(0, 0, 40, 30)");
        done("fade(0, 0, 3, 7)", 2);
        ask("tick()");
        done("get(0, 2, 0)", 23);
        for (String[] far : new String[][] {{"8000000", "8000000"}, {"8000001", "8000000"}, {"MAX", "8000000"},
            {"-8000000", "-8000000"}, {"-8000001", "-8000000"}, {"MIN", "-8000000"}}) {
            newDesk();
            ask("hang(0, 2, 1)", "set(0, 2, 0, " + far[1] + ")");
            done("fade(0, 0, " + far[0] + ", 1)", 1);
            done("tick()", 0);
            counts(4, 1);
            done("get(0, 2, 0)", Integer.parseInt(far[1]));
        }
    }

    private void beginsNoneByABadStep() {
        sentence(FADE, "BAD also: step is not 1 .. 1000.");
        furnishedDesk();
        refused("fade(0, 0, 9, ?)", new String[] {"0", "-1", "1001", "MIN", "MAX"}, BAD);
        refused("fade(4, 0, 9, ?)", new String[] {"0", "1001"}, BAD);
        newDesk();
        ask("hang(0, 2, 2)");
        done("fade(0, 0, 5000, 1)", 1);
        done("fade(0, 1, 5000, 1000)", 2);
        done("tick()", 2);
        done("get(0, 2, 0)", 1);
        done("get(0, 2, 1)", 1000);
    }

    private void beginsNoneWhenFull() {
        sentence(FADE, "FULL: 16 run (nothing is LOOKED at).");
        ask("hang(0, 2, 1)");
        ask(15, "fade(0, 0, 9, 1)");
        done("fade(0, 0, 9, 1)", 16);
        refused("fade(0, 0, 9, 1)", FULL);
        refused("fade(0, 1, 9, 1)", FULL);
        refused("fade(0, -1, 9, 1)", FULL);
        refused("fade(1, 0, 9, 1)", FULL);
        counts(0, 0);
        counts(1, 0);
        done("tick()", 8);
        done("fade(0, 0, 9, 1)", 9);
        newDesk();
        ask("hang(0, 2, 1)");
        ask(16, "fade(0, 0, 100, 1)");
        ask("strike(0, 2)");
        refused("fade(0, 0, 9, 1)", FULL);
        done("tick()", 0);
        counts(5, 16);
        refused("fade(0, 0, 9, 1)", MISSING);
    }

    private void beginsNoneRefused() {
        sentence(FADE, "MISSING, OUTSIDE.");
        furnishedDesk();
        refused("fade(4, ?, 9, 9)", new String[] {"0", "-1", "MAX"}, MISSING);
        refused("fade(0, ?, 9, 9)", NO_PLACES_OF_FOUR, OUTSIDE);
        refused("fade(2, 0, 9, 9)", OUTSIDE);
        counts(3, 3);
        done("fade(0, 3, 9, 9)", 4);
    }

    private void ticksInOrder() {
        sentence(TICK, "Each FADE, in order: the LEVEL at its place in its bank is LOOKED at.");
        ask("hang(0, 2, 2)", "share(1, 2, 0)");
        ask("fade(0, 1, 100, 100)", "fade(1, 1, -1, 30)", "fade(0, 1, 100, 3)", "fade(0, 0, 9, 4)");
        done("tick()", 3);
        done("get(0, 2, 1)", 73);
        done("get(0, 2, 0)", 4);
        done("tick()", 3);
        done("get(0, 2, 1)", 46);
        ask("hang(1, 2, 2)");
        done("tick()", 1);
        done("get(1, 2, 1)", -1);
        done("get(0, 2, 1)", 49);
        done("get(0, 2, 0)", 9);
        newDesk();
        leavesAllAsItWas("tick()", NONE_COUNTS, 0);
    }

    private void ticksAndDrops() {
        sentence(TICK, "If that is refused the FADE is DROPPED.");
        ask("hang(0, 2, 3)", "hang(1, 2, 3)", "hang(2, 2, 3)");
        ask("fade(0, 2, 9, 1)", "fade(1, 2, 9, 1)", "fade(2, 0, 9, 1)", "fade(2, 2, 9, 1)", "fade(0, 0, 9, 1)");
        ask("strike(0, 2)", "hang(1, 2, 2)", "hang(2, 2, 1)");
        done("tick()", 1);
        counts(3, 1);
        counts(4, 0);
        counts(5, 2);
        counts(6, 2);
        counts(0, 2);
        counts(1, 2);
        counts(8, 1);
        done("get(2, 2, 0)", 1);
        ask("hang(0, 2, 3)", "hang(1, 2, 3)");
        done("tick()", 1);
        done("get(0, 2, 2)", 0);
        done("get(1, 2, 2)", 0);
        done("get(2, 2, 0)", 2);
        ask("hang(2, 2, 0)");
        done("tick()", 0);
        counts(6, 3);
    }

    private void ticksNearer() {
        sentence(TICK, "Else the LEVEL comes nearer to the target by the step, or to the target, if that is not further away, and is SET; if it is the target now (or was), the FADE has REACHED it and runs no more.");
        int[][] cases = {
            // from, target, step, level behind a tick
            {0, 11, 10, 10}, {0, 10, 10, 10}, {0, 9, 10, 9}, {0, 1, 1, 1}, {0, 0, 1, 0}, {0, 0, 1000, 0},
            {0, -11, 10, -10}, {0, -10, 10, -10}, {0, -9, 10, -9}, {5, -5, 10, -5}, {5, -6, 10, -5}, {-5, 6, 10, 5},
            {-8000000, 8000000, 1000, -7999000}, {8000000, -8000000, 1000, 7999000},
            {7999500, 8000000, 1000, 8000000}, {-7999500, -8000000, 1000, -8000000},
            {8000000, 8000000, 1, 8000000}, {-8000000, -8000000, 1, -8000000},
        };
        for (int[] c : cases) {
            newDesk();
            ask("hang(0, 2, 1)", "set(0, 2, 0, " + c[0] + ")", "fade(0, 0, " + c[1] + ", " + c[2] + ")");
            int runs = c[3] == c[1] ? 0 : 1;
            done("tick()", runs);
            done("get(0, 2, 0)", c[3]);
            counts(3, runs);
            counts(4, 1 - runs);
            counts(8, 2);
        }
        newDesk();
        ask("hang(0, 2, 1)", "fade(0, 0, 5, 5)", "tick()", "set(0, 2, 0, 77)");
        done("tick()", 0);
        done("get(0, 2, 0)", 77);
        counts(4, 1);
    }

    private void ticksAndTellsHowManyRun() {
        sentence(TICK, "How many run then.");
        done("tick()", 0);
        ask("hang(0, 2, 16)");
        for (int f = 0; f < 16; f++) {
            ask("fade(0, " + f + ", " + (f + 1) + ", 1)");
        }
        for (int left = 15; left >= 0; left--) {
            done("tick()", left);
            counts(3, left);
        }
        done("tick()", 0);
        counts(4, 16);
    }

    private void ticksWithStatusZero() {
        sentence(TICK, "(STATUS 0.)");
        is("size(0, 0)", 0, MISSING);
        done("tick()", 0);
        ask("hang(0, 2, 1)", "fade(0, 0, 9, 1)", "strike(0, 2)", "size(9, 9)");
        done("tick()", 0);
        ask("hang(0, 2, 1)", "fade(0, 0, 9, 1)", "hang(0, 2, 0)", "hang(0, 2, 25)");
        done("tick()", 0);
    }

    private void newSheet() {
        sentence(SHEET, "The SHEET is a new one: n ROWS of m CELLS, 0 in each: n * m.");
        wholeBank(0, 12);
        ask("ripple(0, 0, 1, 12, 5)");
        for (int i = 0; i < 12; i++) {
            ask("set(0, 3, " + i + ", 1)");
        }
        int[][] sizes = {{12, 12}, {0, 0}, {0, 12}, {12, 0}, {1, 12}, {12, 1}, {1, 1}, {3, 4}};
        for (int[] size : sizes) {
            int n = size[0];
            int m = size[1];
            done("sheet(" + n + ", " + m + ")", n * m);
            counts(9, n);
            is("cell(" + n + ", 0)", 0, OUTSIDE);
            is("cell(0, " + m + ")", 0, OUTSIDE);
            if (n * m > 0) {
                done("cell(0, 0)", 0);
                done("cell(" + (n - 1) + ", " + (m - 1) + ")", 0);
                ask("draw(0, 0)", "draw(0, " + (n - 1) + ")", "tear(0, -1)");
            }
        }
        newDesk();
        wholeBank(0, 2);
        ask("set(0, 2, 1, 8)", "set(0, 3, 1, 1)", "sheet(3, 2)", "draw(0, 1)");
        done("cell(0, 1)", 0);
        done("cell(1, 1)", 8);
        done("cell(2, 1)", 0);
        done("sheet(3, 2)", 6);
        done("cell(1, 1)", 0);
        counts(10, 2);
    }

    private void noSheetLargeOrNegative() {
        sentence(SHEET, "LARGE: n or m is above 12; NEGATIVE: else, n or m is below 0 (it counts once): the SHEET stays.");
        for (int made = 0; made < 2; made++) {
            newDesk();
            if (made == 1) {
                furnishedDesk();
            }
            String[] large = {"13", "14", "MAX"};
            refused("sheet(?, 1)", large, LARGE);
            refused("sheet(1, ?)", large, LARGE);
            refused("sheet(0, ?)", large, LARGE);
            refused("sheet(?, ?)", large, LARGE);
            refused("sheet(-1, ?)", large, LARGE);
            refused("sheet(?, MIN)", large, LARGE);
            counts(2, 0);
            String[] negative = {"-1", "-12", "-13", "MIN"};
            refused("sheet(?, 1)", negative, NEGATIVE);
            refused("sheet(12, ?)", negative, NEGATIVE);
            refused("sheet(0, ?)", negative, NEGATIVE);
            refused("sheet(?, 0)", negative, NEGATIVE);
            refused("sheet(?, ?)", negative, NEGATIVE);
            counts(2, 20);
        }
    }

    private void looksAtCells() {
        sentence(CELL, "CELL j of ROW i is LOOKED at: its number.");
        furnishedDesk();
        int[] drawn = {-300, -45, 0, 0};
        for (int j = 0; j < 4; j++) {
            done("cell(1, " + j + ")", drawn[j]);
            done("cell(2, " + j + ")", drawn[j]);
            done("cell(3, " + j + ")", 0);
        }
        leavesAllAsItWas("cell(1, 0)", NONE_COUNTS, 0);
    }

    private void looksAtCellsRefused() {
        sentence(CELL, "MISSING, OUTSIDE.");
        refused("cell(0, 0)", MISSING);
        furnishedDesk();
        refused("cell(?, 0)", NO_PLACES_OF_FOUR, OUTSIDE);
        refused("cell(0, ?)", NO_PLACES_OF_FOUR, MISSING);
        refused("cell(1, ?)", NO_PLACES_OF_FOUR, OUTSIDE);
    }

    private void tears() {
        sentence(TEAR, "ROW i of the SHEET is then the very ROW k, or torn out, if that is; with k = -1 it is torn out.");
        furnishedDesk();
        done("tear(3, 1)", 1);
        done("cell(3, 0)", -300);
        ask("set(0, 3, 0, 0)", "draw(0, 3)");
        done("cell(1, 0)", 0);
        done("cell(2, 0)", 0);
        done("tear(3, 0)", 0);
        refused("cell(3, 0)", MISSING);
        done("cell(1, 1)", -45);
        done("tear(1, -1)", 0);
        refused("cell(1, 1)", MISSING);
        done("cell(2, 1)", -45);
        done("tear(0, 2)", 1);
        done("cell(0, 1)", -45);
        done("tear(2, 2)", 1);
        done("cell(2, 1)", -45);
        counts(9, 4);
    }

    private void tearsAndTells() {
        sentence(TEAR, "1 if it is there then, else 0.");
        ask("sheet(2, 0)");
        done("tear(0, 0)", 1);
        done("tear(0, 1)", 1);
        done("tear(0, -1)", 0);
        done("tear(0, -1)", 0);
        done("tear(0, 0)", 0);
        done("tear(0, 1)", 1);
        done("tear(1, -1)", 0);
        done("tear(1, 0)", 1);
        counts(0, 0);
        counts(1, 0);
    }

    private void tearsRefused() {
        sentence(TEAR, "The first of these ends it, and counts (alone): MISSING, there is no SHEET; OUTSIDE, it has no ROW k (k is not -1); OUTSIDE, it has no ROW i.");
        String[] any = {"0", "-1", "-2", "4", "12", "MIN", "MAX"};
        refused("tear(?, 0)", any, MISSING);
        refused("tear(0, ?)", any, MISSING);
        refused("tear(?, ?)", any, MISSING);
        counts(1, 0);
        furnishedDesk();
        refused("tear(1, ?)", new String[] {"4", "-2", "12", "MIN", "MAX"}, OUTSIDE);
        refused("tear(?, 1)", new String[] {"4", "-1", "-2", "12", "MIN", "MAX"}, OUTSIDE);
        furnishedDesk();
        refused("tear(?, -1)", new String[] {"4", "-1", "-2", "12", "MIN", "MAX"}, OUTSIDE);
        refused("tear(?, 0)", new String[] {"4", "-1", "MAX"}, OUTSIDE);
        refused("tear(4, 4)", OUTSIDE);
        refused("tear(MIN, MAX)", OUTSIDE);
        newDesk();
        ask("sheet(0, 0)");
        refused("tear(0, -1)", OUTSIDE);
        refused("tear(0, 0)", OUTSIDE);
    }

    private void draws() {
        sentence(DRAW, "For j = 0, 1, ..: what lamp j of the bank SHOWS is found as by shown(), then it is written to CELL j of ROW i.");
        wholeBank(5, 12);
        ask("sheet(12, 12)");
        int[] shows = new int[12];
        for (int j = 0; j < 12; j++) {
            ask("set(5, 2, " + j + ", " + 100 * j + ")", "set(5, 1, " + j + ", -3)", "set(5, 0, " + j + ", " + j + ")");
            ask("set(5, 3, " + j + ", " + (j == 4 ? 0 : 1) + ")");
            shows[j] = j == 4 ? 0 : j % 2 == 0 ? 100 * j - 3 : 3 - 100 * j;
        }
        is("draw(5, 11)", 12, OUTSIDE);
        for (int j = 0; j < 12; j++) {
            done("shown(5, " + j + ")", shows[j]);
            done("cell(11, " + j + ")", shows[j]);
            done("cell(10, " + j + ")", 0);
        }
        counts(10, 12);
        ask("hang(5, 3, 12)", "draw(5, 11)");
        done("cell(11, 11)", 0);
        counts(10, 24);
    }

    private void drawsUntilRefused() {
        sentence(DRAW, "The first refusal ends it (there always is one); what was written ahead stays: how many CELLS were written, whatever the STATUS.");
        wholeBank(0, 24);
        ask("ripple(0, 0, 1, 24, 6)");
        for (int j = 0; j < 24; j++) {
            ask("set(0, 3, " + j + ", 1)");
        }
        for (int m = 0; m <= 12; m++) {
            ask("sheet(1, " + m + ")");
            is("draw(0, 0)", m, OUTSIDE);
            counts(1, m + 1);
        }
        done("cell(0, 0)", 6);
        done("cell(0, 11)", 6);
        ask("hang(0, 0, 5)", "set(0, 2, 4, 9)");
        is("draw(0, 0)", 5, OUTSIDE);
        done("cell(0, 4)", 9);
        done("cell(0, 5)", 6);
        ask("strike(0, 1)", "set(0, 3, 0, 0)", "set(0, 3, 1, 0)");
        is("draw(0, 0)", 2, MISSING);
        done("cell(0, 0)", 0);
        done("cell(0, 1)", 0);
        done("cell(0, 2)", 6);
        counts(0, 1);
        counts(10, 78 + 5 + 2);
    }

    private void drawsRefused() {
        sentence(DRAW, "MISSING, OUTSIDE: of that refusal.");
        furnishedDesk();
        refused("draw(4, 1)", MISSING);
        refused("draw(1, 1)", MISSING);
        refused("draw(0, 0)", MISSING);
        refused("draw(0, ?)", NO_PLACES_OF_FOUR, OUTSIDE);
        is("draw(2, 1)", 4, OUTSIDE);
        ask("hang(0, 3, 0)");
        refused("draw(0, 1)", OUTSIDE);
        newDesk();
        ask("hang(0, 3, 1)");
        refused("draw(0, 0)", MISSING);
        ask("hang(0, 3, 0)");
        refused("draw(0, 0)", OUTSIDE);
        ask("sheet(1, 0)", "tear(0, -1)", "strike(0, 3)");
        refused("draw(0, 9)", MISSING);
    }

    private void status() {
        sentence("Promise 20: status", "The STATUS of the latest other call (count() aside); 0 at first.");
        is("status()", 0);
        is("status()", 0);
        counts(0, 0);
        is("status()", 0);
        ask("get(0, 0, 0)", "status()", "count(1)", "count(-1)", "count(11)");
        is("status()", MISSING);
        ask("hang(0, 0, 0)");
        is("status()", DONE);
        leavesAllAsItWas("status()", NONE_COUNTS, 0);
    }

    private void count() {
        sentence("Promise 21: count", "0 refusals as MISSING so far, 1 as OUTSIDE, 2 as NEGATIVE; 3 FADES that run, 4 that REACHED their target so far, 5 that were DROPPED as MISSING, 6 as OUTSIDE; 7 STRIPS that are there (of all banks; a SHARED one as often as banks have it); 8 PLACES that were SET so far (hang() SETS none); 9 ROWS of the SHEET (torn out ones, too; 0 without one); 10 CELLS that were written so far; 0 for another what.");
        for (int what = 0; what <= 10; what++) {
            counts(what, 0);
        }
        furnishedDesk();
        countAll(0, 1, 0, 3, 0, 0, 0, 10, 6, 4, 4);
        ask("size(4, 0)", "size(4, 0)", "get(2, 2, 0)", "hang(0, 0, -1)", "sheet(-1, -1)");
        countAll(2, 2, 2, 3, 0, 0, 0, 10, 6, 4, 4);
        ask("tick()");
        countAll(2, 2, 2, 2, 1, 0, 0, 10, 9, 4, 4);
        ask("strike(0, 2)", "hang(3, 2, 0)", "tick()");
        countAll(3, 3, 2, 0, 1, 1, 1, 9, 9, 4, 4);
        for (int bank = 0; bank <= 5; bank++) {
            ask("share(" + bank + ", 1, 0)");
        }
        ask("sheet(2, 1)", "tear(0, -1)", "tear(1, 0)");
        countAll(3, 3, 2, 0, 1, 1, 1, 14, 9, 2, 4);
        ask("size(9, 9)", "hang(9, 0, 1)", "hang(0, 0, 25)", "sheet(13, 0)", "lit(6)");
        countAll(3, 3, 2, 0, 1, 1, 1, 14, 9, 2, 4);
        ask("sheet(0, 12)");
        counts(9, 0);
        for (String what : new String[] {"-1", "11", "12", "99", "MIN", "MAX"}) {
            is("count(" + what + ")", 0);
            leavesAllAsItWas("count(" + what + ")", NONE_COUNTS, 0);
        }
    }

    private void countAll(int... want) {
        for (int what = 0; what < want.length; what++) {
            counts(what, want[what]);
        }
    }
}
