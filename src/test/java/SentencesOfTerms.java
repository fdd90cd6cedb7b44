import java.util.Set;

/** A test for each sentence of the document's sections "What it is" and "Terms" that names a boundary case. */
final class SentencesOfTerms extends Sentences {
    private static final String TERMS = "Terms";
    private static final int MIN = Integer.MIN_VALUE;
    private static final int MAX = Integer.MAX_VALUE;

    SentencesOfTerms(Due due, Set<String> held) {
        super(due, held);
    }

    void hold() {
        atMost512Calls();
        toldByItsKind();
        sixBanksWithFourStrips();
        missingOrWithPlaces();
        numbersOfEachKind();
        whatAnythingSetBecomes();
        sharedStrips();
        refusedLooksAndSets();
        refusedMeasures();
        refusalsChangeNothing();
        refusalsCountWhereverTheyComeUp();
        sheetWithRowsAndCells();
        tornOutAndSameRows();
        refusedCells();
        refusedCellsCount();
        eachCallLeavesAStatus();
        badIsLookedAtFirst();
        statusOtherThanZero();
        badBanksAndStrips();
        fadesInOrder();
        sumsOfPlacesWrap();
    }

    private void atMost512Calls() {
        sentence("What it is", "An object is used for at most 512 calls after it has been made; what later calls answer is free.");
        ask(511, "hang(5, 3, 24)");
        is("size(5, 3)", 24);
        newDesk();
        ask(511, "sheet(12, 12)");
        is("cell(11, 11)", 0);
        newDesk();
        ask(511, "get(0, 0, 0)");
        counts(0, 511);
        newDesk();
        ask("hang(0, 2, 1)");
        ask(510, "ripple(0, 0, 0, 64, 9)");
        counts(8, 510 * 64);
        newDesk();
        ask("hang(0, 2, 1)");
        for (int f = 0; f < 255; f++) {
            ask("fade(0, 0, 5, 5)", "tick()");
        }
        counts(4, 255);
    }

    private void toldByItsKind() {
        sentence(TERMS, "All that can't be done is told by its kind.");
        ask("hang(0, 2, 1)");
        refused("size(6, 2)", BAD);
        refused("size(1, 2)", MISSING);
        refused("get(0, 2, 1)", OUTSIDE);
        refused("hang(0, 2, -1)", NEGATIVE);
        refused("hang(0, 2, 25)", LARGE);
        ask(16, "fade(0, 0, 9, 1)");
        refused("fade(0, 0, 9, 1)", FULL);
    }

    private void sixBanksWithFourStrips() {
        sentence(TERMS, "BANKS 0 .. 5 have four STRIPS each: 0 TINTS, 1 TRIMS, 2 LEVELS, 3 KEYS.");
        for (int bank = 0; bank <= 5; bank++) {
            for (int strip = 0; strip <= 3; strip++) {
                done("hang(" + bank + ", " + strip + ", " + (4 * bank + strip + 1) + ")", 4 * bank + strip + 1);
            }
        }
        int[] becomes = {65535 - 4, -5, -5, 1};
        for (int bank = 0; bank <= 5; bank++) {
            for (int strip = 0; strip <= 3; strip++) {
                String place = bank + ", " + strip + ", " + (4 * bank + strip);
                done("size(" + bank + ", " + strip + ")", 4 * bank + strip + 1);
                done("set(" + place + ", -5)", 0);
                done("get(" + place + ")", becomes[strip]);
            }
        }
        refused("size(-1, 0)", BAD);
        refused("size(6, 0)", BAD);
        refused("size(0, -1)", BAD);
        refused("size(0, 4)", BAD);
    }

    private void missingOrWithPlaces() {
        sentence(TERMS, "A STRIP is MISSING (so all are at first), or has PLACES 0, 1, .., as many as it was hung with (perhaps none).");
        for (int bank = 0; bank <= 5; bank++) {
            for (int strip = 0; strip <= 3; strip++) {
                is("size(" + bank + ", " + strip + ")", 0, MISSING);
            }
        }
        newDesk();
        for (int n = 1; n <= 24; n++) {
            done("hang(4, 1, " + n + ")", n);
            done("size(4, 1)", n);
            done("get(4, 1, 0)", 0);
            done("get(4, 1, " + (n - 1) + ")", 0);
            is("get(4, 1, " + n + ")", 0, OUTSIDE);
        }
        newDesk();
        for (int strip = 0; strip <= 3; strip++) {
            done("hang(4, " + strip + ", 0)", 0);
            done("size(4, " + strip + ")", 0);
            is("get(4, " + strip + ", 0)", 0, OUTSIDE);
            is("set(4, " + strip + ", 0, 1)", 0, OUTSIDE);
        }
        counts(7, 4);
        counts(0, 0);
    }

    private void numbersOfEachKind() {
        sentence(TERMS, "What stands in a PLACE is a NUMBER: of TINTS 0 .. 65535, of TRIMS -32768 .. 32767, of LEVELS -8000000 .. 8000000, of KEYS 0 or 1.");
        int[][] ends = {{0, 65535}, {-32768, 32767}, {-8000000, 8000000}, {0, 1}};
        for (int strip = 0; strip <= 3; strip++) {
            ask("hang(0, " + strip + ", 2)");
            for (int end : ends[strip]) {
                ask("set(0, " + strip + ", 1, " + end + ")");
                done("get(0, " + strip + ", 1)", end);
                done("get(0, " + strip + ", 0)", 0);
            }
        }
    }

    private void whatAnythingSetBecomes() {
        sentence(TERMS, "A v that is SET there becomes: of TINTS its lowest 16 bits, of TRIMS these with their sign (-32768 .. 32767), of LEVELS the nearest one of -8000000 .. 8000000, of KEYS its lowest bit.");
        becomes(0, new int[][] {
            {-1, 65535}, {-2, 65534}, {65535, 65535}, {65536, 0}, {65537, 1}, {-65535, 1}, {-65536, 0}, {-65537, 65535},
            {32768, 32768}, {-32768, 32768}, {131071, 65535}, {MAX, 65535}, {MIN, 0}, {MAX - 1, 65534}, {MIN + 1, 1},
        });
        becomes(1, new int[][] {
            {32767, 32767}, {32768, -32768}, {32769, -32767}, {-32768, -32768}, {-32769, 32767}, {-32770, 32766},
            {65535, -1}, {65536, 0}, {65537, 1}, {-65536, 0}, {-65537, -1}, {98303, 32767}, {98304, -32768},
            {MAX, -1}, {MIN, 0}, {MAX - 1, -2}, {MIN + 1, 1},
        });
        becomes(2, new int[][] {
            {7999999, 7999999}, {8000000, 8000000}, {8000001, 8000000}, {-7999999, -7999999}, {-8000000, -8000000},
            {-8000001, -8000000}, {16000000, 8000000}, {-16000000, -8000000}, {65536, 65536}, {-32769, -32769},
            {MAX, 8000000}, {MIN, -8000000}, {MAX - 1, 8000000}, {MIN + 1, -8000000},
        });
        becomes(3, new int[][] {
            {0, 0}, {1, 1}, {2, 0}, {3, 1}, {-1, 1}, {-2, 0}, {-3, 1}, {65536, 0}, {65537, 1},
            {MAX, 1}, {MIN, 0}, {MAX - 1, 0}, {MIN + 1, 1},
        });
        becomesByPatch();
        becomesByRippleAndFade();
    }

    private void becomes(int strip, int[][] given) {
        newDesk();
        ask("hang(0, " + strip + ", 3)");
        for (int[] pair : given) {
            ask("set(0, " + strip + ", 1, " + pair[0] + ")");
            done("get(0, " + strip + ", 1)", pair[1]);
            ask("poke(0, 2, " + pair[0] + ")");
            done("get(0, " + strip + ", 2)", pair[1]);
            done("get(0, " + strip + ", 0)", 0);
        }
    }

    private void becomesByPatch() {
        newDesk();
        for (int strip = 0; strip <= 3; strip++) {
            ask("hang(0, " + strip + ", 1)", "hang(1, " + strip + ", 1)");
        }
        int[][] numbers = {{65535, 40000}, {-32768, -3}, {8000000, -8000000, 65537}, {1, 0}};
        for (int looked = 0; looked <= 3; looked++) {
            for (int number : numbers[looked]) {
                ask("set(0, " + looked + ", 0, " + number + ")");
                int[] becomes = {number & 65535, (short) number, number, number & 1};
                for (int set = 0; set <= 3; set++) {
                    done("patch(0, 0, 1, 0, " + (4 * looked + set) + ")", number);
                    done("get(1, " + set + ", 0)", becomes[set]);
                }
            }
        }
    }

    private void becomesByRippleAndFade() {
        newDesk();
        ask("hang(0, 2, 2)", "set(0, 2, 0, 7999999)", "set(0, 2, 1, -7999999)");
        done("ripple(0, 0, 1, 1, 2)", 1);
        done("get(0, 2, 0)", 8000000);
        done("ripple(0, 1, 1, 1, -2)", 1);
        done("get(0, 2, 1)", -8000000);
        ask("set(0, 2, 0, 7999999)", "set(0, 2, 1, -7999999)");
        ask("fade(0, 0, 8000001, 1000)", "fade(0, 1, -8000001, 1000)");
        done("tick()", 0);
        done("get(0, 2, 0)", 8000000);
        done("get(0, 2, 1)", -8000000);
    }

    private void sharedStrips() {
        sentence(TERMS, "BANKS may have the very same STRIP (SHARED): what is SET by one is then what stands there for all of them.");
        for (int strip = 0; strip <= 3; strip++) {
            newDesk();
            ask("hang(0, " + strip + ", 2)");
            for (int bank = 1; bank <= 5; bank++) {
                done("share(" + bank + ", " + strip + ", " + (bank - 1) + ")", 1);
            }
            for (int bank = 0; bank <= 5; bank++) {
                int number = 1 - bank % 2;
                ask("set(" + bank + ", " + strip + ", 1, " + number + ")");
                for (int other = 0; other <= 5; other++) {
                    done("get(" + other + ", " + strip + ", 1)", number);
                    done("get(" + other + ", " + strip + ", 0)", 0);
                }
            }
        }
        newDesk();
        ask("hang(0, 2, 1)", "share(4, 2, 0)");
        ask("poke(4, 0, 11)");
        done("get(0, 2, 0)", 11);
        ask("ripple(4, 0, 0, 2, 5)");
        done("get(0, 2, 0)", 21);
        ask("hang(1, 1, 1)", "set(1, 1, 0, -8)", "patch(1, 0, 4, 0, 6)");
        done("get(0, 2, 0)", -8);
        ask("fade(4, 0, 3, 2)", "tick()");
        done("get(0, 2, 0)", -6);
    }

    private void refusedLooksAndSets() {
        sentence(TERMS, "To LOOK at PLACE i of a STRIP, or to SET it, is refused: MISSING, if the STRIP is MISSING; else OUTSIDE, if it has no PLACE i.");
        String[] anyPlaces = {"0", "-1", "23", "24", "MIN", "MAX"};
        for (int strip = 0; strip <= 3; strip++) {
            newDesk();
            ask("hang(0, 2, 1)", "hang(5, " + strip + ", 24)");
            refused("get(4, " + strip + ", ?)", anyPlaces, MISSING);
            refused("patch(5, 0, 4, ?, " + 5 * strip + ")", anyPlaces, MISSING);
        }
        String[] noPlaces = {"3", "-1", "4", "24", "MIN", "MAX"};
        for (int strip = 0; strip <= 3; strip++) {
            newDesk();
            ask("hang(4, " + strip + ", 3)", "hang(5, " + strip + ", 24)", "set(5, " + strip + ", 0, 1)");
            refused("get(4, " + strip + ", ?)", noPlaces, OUTSIDE);
            refused("patch(5, 0, 4, ?, " + 5 * strip + ")", noPlaces, OUTSIDE);
            done("get(4, " + strip + ", 2)", 0);
            done("patch(5, 0, 4, 2, " + 5 * strip + ")", 1);
            done("get(4, " + strip + ", 2)", 1);
        }
        for (int strip = 0; strip <= 3; strip++) {
            newDesk();
            ask("hang(4, " + strip + ", 0)", "hang(5, " + strip + ", 1)");
            refused("get(4, " + strip + ", 0)", OUTSIDE);
            refused("patch(5, 0, 4, 0, " + 5 * strip + ")", OUTSIDE);
        }
    }

    private void refusedMeasures() {
        sentence(TERMS, "To MEASURE a STRIP (how many PLACES it has) is refused, MISSING, if it is.");
        for (int strip = 0; strip <= 3; strip++) {
            refused("size(3, " + strip + ")", MISSING);
        }
        refused("lit(3)", MISSING);
        ask("hang(3, 2, 0)");
        done("size(3, 2)", 0);
        done("lit(3)", 0);
        ask("strike(3, 2)");
        refused("size(3, 2)", MISSING);
        refused("lit(3)", MISSING);
    }

    private void refusalsChangeNothing() {
        sentence(TERMS, "A refused one changes nothing; each one counts (see count()), wherever it comes up.");
        String[] missing = {
            "size(4, 0)", "get(4, 1, 0)", "set(4, 2, 0, 9)", "patch(4, 0, 0, 0, 10)", "patch(0, 0, 4, 0, 10)",
            "ripple(4, 0, 1, 9, 5)", "shown(4, 0)", "lit(4)", "fade(4, 0, 9, 9)", "cell(0, 0)", "draw(4, 1)", "draw(0, 0)",
        };
        String[] outside = {
            "get(0, 1, 4)", "set(0, 2, -1, 9)", "patch(0, 4, 0, 0, 10)", "patch(0, 0, 0, 4, 10)",
            "ripple(0, 4, -1, 9, 5)", "shown(0, 4)", "fade(2, 0, 9, 9)", "cell(4, 0)", "cell(1, 4)",
            "tear(4, 1)", "tear(1, 4)", "draw(0, 4)",
        };
        for (String call : missing) {
            furnishedDesk();
            refused(call, MISSING);
        }
        for (String call : outside) {
            furnishedDesk();
            refused(call, OUTSIDE);
        }
    }

    private void refusalsCountWhereverTheyComeUp() {
        furnishedDesk();
        leavesAllAsItWas("probe(4, 0)", 0, 4);
        leavesAllAsItWas("poke(4, 0, 9)", 0, 4);
        leavesAllAsItWas("probe(0, 4)", 1, 4);
        leavesAllAsItWas("poke(0, -1, 9)", 1, 4);
        done("probe(1, 2)", 211);
        counts(0, 2);
        counts(1, 2);
        done("poke(2, 24, 9)", 2211);
        counts(0, 4);
        counts(1, 4);
        newDesk();
        ask("hang(0, 2, 5)");
        leavesAllAsItWas("lit(0)", 0, 5);
        ask("hang(0, 3, 2)");
        leavesAllAsItWas("lit(0)", 1, 3);
        newDesk();
        ask("hang(0, 2, 5)", "fade(0, 1, 9, 1)", "fade(0, 4, 9, 1)", "fade(0, 0, 9, 1)", "hang(0, 2, 1)");
        done("tick()", 1);
        counts(1, 2);
        ask("strike(0, 2)");
        done("tick()", 0);
        counts(0, 1);
        counts(1, 2);
    }

    private void sheetWithRowsAndCells() {
        sentence(TERMS, "THE SHEET: there is none at first; it has ROWS 0, 1, .. with CELLS 0, 1, .., each a number.");
        refused("cell(0, 0)", MISSING);
        refused("tear(0, -1)", MISSING);
        counts(9, 0);
        done("sheet(3, 2)", 6);
        for (int i = 0; i < 3; i++) {
            done("cell(" + i + ", 0)", 0);
            done("cell(" + i + ", 1)", 0);
            refused("cell(" + i + ", -1)", OUTSIDE);
            refused("cell(" + i + ", 2)", OUTSIDE);
        }
        refused("cell(-1, 0)", OUTSIDE);
        refused("cell(3, 0)", OUTSIDE);
        newDesk();
        ask("hang(0, 0, 2)", "hang(0, 1, 2)", "hang(0, 2, 2)", "hang(0, 3, 2)");
        ask("set(0, 2, 0, 8000000)", "set(0, 1, 0, 32767)", "set(0, 3, 0, 1)");
        ask("set(0, 2, 1, -8000000)", "set(0, 1, 1, -32768)", "set(0, 3, 1, 1)");
        ask("sheet(1, 2)", "draw(0, 0)");
        done("cell(0, 0)", 8032767);
        done("cell(0, 1)", -8032768);
    }

    private void tornOutAndSameRows() {
        sentence(TERMS, "A ROW may be torn out; two ROWS may be the very same.");
        ask("hang(0, 3, 1)", "hang(0, 2, 1)", "hang(0, 1, 1)", "hang(0, 0, 1)", "set(0, 3, 0, 1)", "set(0, 2, 0, 6)");
        ask("sheet(4, 1)");
        done("tear(3, -1)", 0);
        refused("cell(3, 0)", MISSING);
        refused("draw(0, 3)", MISSING);
        done("tear(0, 2)", 1);
        is("draw(0, 0)", 1, OUTSIDE);
        done("cell(0, 0)", 6);
        done("cell(2, 0)", 6);
        done("cell(1, 0)", 0);
        ask("set(0, 2, 0, 7)");
        is("draw(0, 2)", 1, OUTSIDE);
        done("cell(0, 0)", 7);
        done("cell(1, 0)", 0);
    }

    private void refusedCells() {
        sentence(TERMS, "To LOOK at CELL j of ROW i, or to write it, is refused, the first of these: MISSING, if there is no SHEET; OUTSIDE, if it has no ROW i; MISSING, if ROW i is torn out; OUTSIDE, if ROW i has no CELL j.");
        String[] any = {"0", "-1", "11", "12", "MIN", "MAX"};
        ask("hang(0, 3, 1)");
        refused("cell(?, 0)", any, MISSING);
        refused("cell(0, ?)", any, MISSING);
        refused("cell(?, ?)", any, MISSING);
        refused("draw(0, ?)", any, MISSING);
        newDesk();
        ask("hang(0, 3, 1)", "sheet(0, 3)");
        refused("cell(?, 0)", any, OUTSIDE);
        refused("draw(0, ?)", any, OUTSIDE);
        newDesk();
        ask("hang(0, 3, 1)", "sheet(3, 2)", "tear(1, -1)");
        refused("cell(?, 0)", new String[] {"3", "-1", "MIN", "MAX"}, OUTSIDE);
        refused("cell(3, ?)", new String[] {"2", "-1", "MIN", "MAX"}, OUTSIDE);
        refused("draw(0, ?)", new String[] {"3", "-1", "MIN", "MAX"}, OUTSIDE);
        newDesk();
        ask("hang(0, 3, 1)", "sheet(3, 2)", "tear(1, -1)");
        refused("cell(1, ?)", new String[] {"0", "1", "2", "-1", "MIN", "MAX"}, MISSING);
        refused("draw(0, 1)", MISSING);
        refused("cell(2, ?)", new String[] {"2", "-1", "MIN", "MAX"}, OUTSIDE);
        done("cell(2, 1)", 0);
        newDesk();
        ask("hang(0, 3, 1)", "sheet(3, 0)");
        refused("cell(2, 0)", OUTSIDE);
        refused("draw(0, 2)", OUTSIDE);
        ask("tear(2, -1)");
        refused("cell(2, 0)", MISSING);
        refused("draw(0, 2)", MISSING);
    }

    private void refusedCellsCount() {
        sentence(TERMS, "These count, too.");
        ask("hang(0, 3, 3)", "cell(0, 0)", "draw(0, 0)");
        counts(0, 2);
        ask("sheet(2, 2)", "tear(1, -1)", "cell(1, 0)", "draw(0, 1)");
        counts(0, 4);
        counts(1, 0);
        ask("cell(2, 0)", "draw(0, 2)", "cell(0, 2)", "draw(0, 0)");
        counts(1, 4);
        counts(0, 4);
    }

    private void eachCallLeavesAStatus() {
        sentence(TERMS, "Each call but status() and count() leaves a STATUS: 0 if nothing else is said; 1 BAD, a number told at the call is none that it may be (this is looked at first, whatever else is so; nothing is done then); 2 MISSING; 3 OUTSIDE; 4 NEGATIVE; 5 LARGE; 6 FULL.");
        String[] calls = {
            "hang(0, 0, 4)", "strike(0, 0)", "share(0, 0, 1)", "size(0, 2)", "get(0, 2, 0)", "set(0, 2, 0, 300)",
            "patch(0, 0, 0, 1, 10)", "ripple(0, 0, 1, 1, 1)", "probe(0, 0)", "poke(0, 3, 1)", "shown(0, 2)", "lit(0)",
            "fade(0, 0, 5, 5)", "tick()", "sheet(4, 4)", "cell(1, 0)", "tear(3, 3)",
        };
        for (String call : calls) {
            for (String ahead : new String[] {"size(9, 0)", "size(4, 0)", "get(2, 2, 0)", "hang(0, 0, -1)", "hang(0, 0, 25)"}) {
                furnishedDesk();
                ask(ahead, call);
                is("status()", 0);
            }
        }
        furnishedDesk();
        is("size(9, 0)", 0, 1);
        is("count(0)", 0, 1);
        is("size(4, 0)", 0, 2);
        is("count(99)", 0, 2);
        is("get(2, 2, 0)", 0, 3);
        is("status()", 3, 3);
        is("hang(0, 0, -1)", 0, 4);
        is("sheet(-1, 0)", 0, 4);
        is("hang(0, 0, 25)", 0, 5);
        is("sheet(0, 13)", 0, 5);
        ask(13, "fade(0, 0, 5, 5)");
        is("fade(0, 0, 5, 5)", 0, 6);
    }

    /** Each of these has another reason, too, to be refused; the number that it may not be comes first. */
    private void badIsLookedAtFirst() {
        String[] calls = {
            "hang(6, 0, 25)", "hang(-1, 0, -1)", "hang(0, 4, 25)", "hang(0, -1, MIN)",
            "size(6, 9)", "get(4, 4, 0)", "get(6, 2, 99)", "set(0, -1, 99, 9)", "share(4, 2, 6)",
            "patch(4, 0, 6, 0, 10)", "patch(0, 99, -1, 0, 10)", "patch(4, 0, 0, 0, 16)", "patch(0, 0, 0, 99, -1)",
            "patch(-1, 99, 4, 0, 10)",
            "ripple(4, 0, 1, 65, 1)", "ripple(0, 99, 1, -1, 1)", "ripple(6, 99, 1, 0, 1)",
            "probe(6, 99)", "poke(-1, 99, 9)", "shown(6, 99)",
            "fade(4, 0, 9, 0)", "fade(0, 99, 9, 1001)", "fade(6, 99, 9, 9)", "draw(6, 99)",
        };
        for (String call : calls) {
            furnishedDesk();
            refused(call, BAD);
        }
        furnishedDesk();
        ask(13, "fade(0, 0, 5, 5)");
        refused("fade(0, 0, 5, 0)", BAD);
        refused("fade(0, 0, 5, 1001)", BAD);
        refused("fade(6, 0, 5, 5)", BAD);
    }

    private void statusOtherThanZero() {
        sentence(TERMS, "With a STATUS other than 0 a call answers 0 and has done nothing but let the refusal count, if nothing else is said.");
        furnishedDesk();
        refused("hang(0, 2, 25)", LARGE);
        refused("sheet(13, 1)", LARGE);
        refused("hang(0, 2, -1)", NEGATIVE);
        refused("sheet(1, -1)", NEGATIVE);
        refused("patch(0, 0, 4, 0, 10)", MISSING);
        refused("patch(0, 0, 1, 2, 10)", OUTSIDE);
        refused("ripple(0, 0, 1, 65, 9)", BAD);
        furnishedDesk();
        ask(13, "fade(0, 0, 5, 5)");
        refused("fade(0, 1, 5, 5)", FULL);
    }

    private void badBanksAndStrips() {
        sentence(TERMS, "BAD is always: a bank that is not 0 .. 5, a strip that is not 0 .. 3.");
        String[] withBank = {
            "hang(?, 0, 1)", "strike(?, 2)", "share(?, 2, 0)", "share(0, 2, ?)", "size(?, 2)", "get(?, 2, 0)",
            "set(?, 2, 0, 9)", "patch(?, 0, 0, 0, 10)", "patch(0, 0, ?, 0, 10)", "ripple(?, 0, 1, 1, 1)",
            "ripple(?, 0, 1, 0, 1)", "probe(?, 0)", "poke(?, 0, 9)", "shown(?, 0)", "lit(?)", "fade(?, 0, 9, 9)", "draw(?, 1)",
        };
        for (String call : withBank) {
            furnishedDesk();
            refused(call, NO_BANKS, BAD);
        }
        String[] withStrip = {
            "hang(0, ?, 1)", "strike(0, ?)", "share(1, ?, 0)", "size(0, ?)", "get(0, ?, 0)", "set(0, ?, 0, 9)",
        };
        for (String call : withStrip) {
            furnishedDesk();
            refused(call, NO_STRIPS, BAD);
        }
    }

    private void fadesInOrder() {
        sentence(TERMS, "FADES: at most 16 run, in the order in which they were begun; each has a bank, a place, a target (a NUMBER of LEVELS) and a step.");
        ask("hang(0, 2, 24)");
        for (int f = 0; f < 16; f++) {
            done("fade(0, " + f + ", " + 10 * f + ", " + (f + 1) + ")", f + 1);
        }
        refused("fade(0, 16, 9, 1)", FULL);
        counts(3, 16);
        done("tick()", 15);
        for (int f = 1; f < 16; f++) {
            done("get(0, 2, " + f + ")", f + 1);
        }
        done("get(0, 2, 16)", 0);
        done("fade(0, 16, 9, 1)", 16);
        refused("fade(0, 17, 9, 1)", FULL);
        newDesk();
        ask("hang(0, 2, 1)", "fade(0, 0, 100, 60)", "fade(0, 0, 0, 50)", "fade(0, 0, 11, 1)");
        done("tick()", 2);
        done("get(0, 2, 0)", 11);
        newDesk();
        ask("hang(0, 2, 1)", "fade(0, 0, 0, 50)", "fade(0, 0, 11, 1)", "fade(0, 0, 100, 60)");
        done("tick()", 2);
        done("get(0, 2, 0)", 61);
        newDesk();
        ask("hang(0, 2, 1)", "fade(0, 0, MAX, 1000)", "set(0, 2, 0, 7999500)");
        done("tick()", 0);
        done("get(0, 2, 0)", 8000000);
    }

    private void sumsOfPlacesWrap() {
        sentence(TERMS, "All sums of places wrap as ints do.");
        ask("hang(0, 2, 24)");
        is("ripple(0, 23, MAX, 64, 1)", 1, OUTSIDE);
        is("ripple(0, 0, MIN, 64, 1)", 1, OUTSIDE);
        is("ripple(0, 1, MAX, 64, 1)", 1, OUTSIDE);
        is("ripple(0, 3, 1073741824, 64, 1)", 1, OUTSIDE);
        refused("ripple(0, MAX, 1, 64, 1)", OUTSIDE);
        refused("ripple(0, MAX, MAX, 64, 1)", OUTSIDE);
        refused("ripple(0, MIN, MIN, 64, 1)", OUTSIDE);
        refused("ripple(0, MIN, -1, 64, 1)", OUTSIDE);
        refused("ripple(0, -1, 1, 64, 1)", OUTSIDE);
        done("get(0, 2, 23)", 1);
        done("get(0, 2, 0)", 1);
        done("get(0, 2, 1)", 1);
        done("get(0, 2, 3)", 1);
        counts(8, 4);
    }
}
