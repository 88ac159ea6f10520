/** The edges of promises 26 to 36 and of '5 SHEETS', each in a case of its own. */
public final class SheetsEdgesTest {
    private static final int UNKNOWN = SnowInns.UNKNOWN, OUTSIDE = SnowInns.OUTSIDE;
    private static final long LOST = SnowInns.LOST;
    private static final int NULL = 1, CAST = 2, INDEX = 3, SIZE = 4;
    private static final String[] NO_SHEETS = {"-1", "4", "MIN", "MAX"};
    private static final String[] NO_LANES = {"-1", "3", "MIN", "MAX"};
    private static final String[] NO_INNS = {"-1", "3", "4", "MIN", "MAX"};

    public static void main(String[] args) {
        Cases.run(SheetsEdgesTest.class, 26, 36);
    }

    // ---- 5 SHEETS

    private static void isCut(int lane, int v, long want) {
        Told.nothing().go("sheet(0, " + lane + ", 1)").is("put(0, 0, " + v + ")", 1).is("cell(0, 0, " + lane + ")", want);
    }

    static void block5_bytes() {
        isCut(0, 127, 127);
        isCut(0, 128, -128);
        isCut(0, -128, -128);
        isCut(0, -129, 127);
        isCut(0, 255, -1);
        isCut(0, 256, 0);
        isCut(0, Integer.MAX_VALUE, -1);
        isCut(0, Integer.MIN_VALUE, 0);
    }

    static void block5_shorts() {
        isCut(1, 32767, 32767);
        isCut(1, 32768, -32768);
        isCut(1, -32768, -32768);
        isCut(1, -32769, 32767);
        isCut(1, 65535, -1);
        isCut(1, 65536, 0);
        isCut(1, 128, 128);
        isCut(1, Integer.MAX_VALUE, -1);
        isCut(1, Integer.MIN_VALUE, 0);
    }

    static void block5_ints() {
        isCut(2, Integer.MAX_VALUE, Integer.MAX_VALUE);
        isCut(2, Integer.MIN_VALUE, Integer.MIN_VALUE);
        isCut(2, 32768, 32768);
        isCut(2, -1, -1);
    }

    static void block5_rowOfNoCells() {
        for (int lane = 0; lane < 3; lane++) {
            Told.nothing().is("sheet(0, " + lane + ", 0)", 1).is("put(0, 0, 0)", -13).is("cell(0, 0, " + lane + ")", LOST)
                    .is("fault()", INDEX).is("copy(0, 0, 0, 0, 0)", 0).is("lose(0)", 1);
        }
    }

    static void block5_rowOfSixtyCells() {
        for (int lane = 0; lane < 3; lane++) {
            Told.nothing().is("sheet(0, " + lane + ", 60)", 1).is("put(0, 59, 9)", 1).is("put(0, 60, 9)", -13)
                    .is("cell(0, 59, " + lane + ")", 9).is("cell(0, 60, " + lane + ")", LOST).is("fault()", INDEX);
        }
    }

    static void block5_cellsAreZeroAtFirst() {
        for (int lane = 0; lane < 3; lane++) {
            Told told = Told.nothing().go("sheet(3, " + lane + ", 60)");
            for (int i = 0; i < 60; i++) {
                told.is("cell(3, " + i + ", " + lane + ")", 0);
            }
        }
    }

    static void block5_traceWraps() {
        // Bodies of number 4 alone: 31 times it and 4, seven times, are 3668348548, beyond an int.
        Told told = Told.of("i,n1,n1;>2+00").go("light(0)", "light(1)", "light(0)", "light(1)", "light(0)", "light(1)");
        told.is("trace()", 118333824).go("light(0)").is("trace()", -626618748).go("light(1)").is("trace()", 2049655296);
    }

    static void block5_bodiesInTheirOrder() {
        Told.of("i,n1,l2,c3;>2+00").go("tell(0)").is("trace()", 1);
        Told.of("i,n1,l2,c3;>2+00").go("tell(1)").is("trace()", 2 * 31 + 1);
        Told.of("i,n1,l2,c3;>2+00").go("tell(2)").is("trace()", ((3 * 31 + 2) * 31 + 1) * 31 + 1);
        Told.of("i,n1,l2,c3;>2+00").go("light(0)").is("trace()", 4);
        Told.of("i,n1,l2,c3;>2+00").go("light(1)").is("trace()", 4);
        Told.of("i,n1,l2,c3;>2+00").go("light(2)").is("trace()", 5);
    }

    static void block5_tellingsOfNoInches() {
        Told.of("i,n0,l0,c0;>5+00").row("tell(#)", 0, 100, 100);
    }

    static void block5_tellingsOfNineInches() {
        Told.of("i,n9,l9,c9;>0+00").row("tell(#)", 9, 109, 118);
    }

    // ---- promise 26

    static void promise26_noSuchSheet() {
        for (String k : NO_SHEETS) {
            Stand.refuses("sheet(" + k + ", 0, 1)", UNKNOWN);
        }
        Told.nothing().row("sheet(#, 0, 1)", 1, 1, 1, 1, UNKNOWN);
    }

    static void promise26_laneOutside() {
        for (String lane : NO_LANES) {
            Stand.refuses("sheet(0, " + lane + ", 1)", OUTSIDE);
        }
        Told.nothing().row("sheet(0, #, 1)", 1, 1, 1, OUTSIDE);
    }

    static void promise26_moreThanSixty() {
        Stand.refuses("sheet(0, 0, 61)", OUTSIDE);
        Stand.refuses("sheet(0, 0, MAX)", OUTSIDE);
        Stand.refuses("sheet(3, 2, 61)", OUTSIDE);
        Told.nothing().is("sheet(0, 0, 60)", 1);
    }

    static void promise26_sizeBelowZero() {
        Stand.faults("sheet(0, 0, -1)", SIZE);
        Stand.faults("sheet(0, 0, MIN)", SIZE);
        Stand.faults("sheet(3, 2, -1)", SIZE);
        Told.nothing().is("sheet(0, 0, 0)", 1).is("fault()", 0);
    }

    static void promise26_unknownAheadOfTheRest() {
        Stand.refuses("sheet(4, 3, 1)", UNKNOWN);
        Stand.refuses("sheet(4, 0, 61)", UNKNOWN);
        Stand.refuses("sheet(-1, 0, -1)", UNKNOWN);
        Stand.refuses("sheet(MIN, MIN, MIN)", UNKNOWN);
        Stand.refuses("sheet(MAX, MAX, MAX)", UNKNOWN);
    }

    static void promise26_outsideAheadOfSize() {
        Stand.refuses("sheet(0, 3, -1)", OUTSIDE);
        Stand.refuses("sheet(0, -1, MIN)", OUTSIDE);
    }

    static void promise26_aNewRowForAnOldOne() {
        Told told = Told.nothing().go("sheet(0, 2, 60)", "put(0, 0, 5)", "put(0, 9, 6)", "put(0, 59, 7)");
        told.is("sheet(0, 2, 10)", 1).is("cell(0, 0, 2)", 0).is("cell(0, 9, 2)", 0).is("cell(0, 10, 2)", LOST);
        told.is("sheet(0, 2, 60)", 1).is("cell(0, 10, 2)", 0).is("cell(0, 59, 2)", 0);
    }

    static void promise26_anotherLane() {
        Told.nothing().go("sheet(0, 2, 3)", "put(0, 0, 300)").is("sheet(0, 0, 3)", 1).is("cell(0, 0, 2)", LOST)
                .is("fault()", CAST).is("cell(0, 0, 0)", 0).go("put(0, 0, 300)").is("cell(0, 0, 0)", 44);
    }

    static void promise26_otherSheetsStay() {
        Told.nothing().go("sheet(0, 2, 3)", "put(0, 0, 300)", "sheet(1, 0, 3)", "lose(2)").is("cell(0, 0, 2)", 300);
    }

    // ---- promise 27

    static void promise27_noSuchSheet() {
        for (String k : NO_SHEETS) {
            Stand.refuses("lose(" + k + ")", UNKNOWN);
        }
        Told.nothing().go("sheet(0, 0, 1)", "sheet(3, 0, 1)").row("lose(#)", 1, 0, 0, 1, UNKNOWN);
    }

    static void promise27_itHadNothing() {
        Stand.refuses("lose(3)", 0);
        Told.nothing().go("sheet(1, 0, 5)").is("lose(1)", 1).is("lose(1)", 0);
    }

    static void promise27_rowOfNoCellsIsSomething() {
        Told.nothing().go("sheet(1, 0, 0)").is("lose(1)", 1).is("lose(1)", 0);
    }

    static void promise27_nothingIsLeft() {
        Told.nothing().go("sheet(1, 0, 5)", "put(1, 0, 7)", "lose(1)").is("put(1, 0, 1)", -11).is("cell(1, 0, 0)", LOST)
                .is("fault()", NULL).go("sheet(1, 0, 5)").is("cell(1, 0, 0)", 0);
    }

    static void promise27_theRidgeOfItsTextStays() {
        Told told = Told.nothing();
        Due.tell(told.x, "i,n1,n2;>2+00");
        told.is("lose(3)", 1).is("many(0)", 2).is("ofInn(1, 1)", 2);
    }

    // ---- promise 28

    static void promise28_noSuchSheet() {
        for (String k : NO_SHEETS) {
            Stand.refuses("put(" + k + ", 0, 1)", UNKNOWN);
        }
    }

    static void promise28_ofNothing() {
        Stand.faults("put(3, 0, 1)", NULL);
    }

    static void promise28_indexOutside() {
        for (String i : new String[] {"-1", "5", "MIN", "MAX"}) {
            Stand.faults("put(0, " + i + ", 1)", INDEX);
        }
        Told.nothing().go("sheet(0, 0, 5)").is("put(0, 0, 1)", 1).is("put(0, 4, 2)", 1).is("cell(0, 0, 0)", 1)
                .is("cell(0, 4, 0)", 2);
    }

    static void promise28_beyondThisRowThoughNotTheLongest() {
        Stand.faults("put(1, 4, 1)", INDEX);
        Stand.faults("put(1, 59, 1)", INDEX);
        Stand.faults("put(2, 6, 1)", INDEX);
    }

    static void promise28_unknownAheadOfTheRest() {
        Stand.refuses("put(4, -1, 0)", UNKNOWN);
        Stand.refuses("put(MIN, MAX, MIN)", UNKNOWN);
    }

    static void promise28_nullAheadOfIndex() {
        Stand.faults("put(3, -1, 0)", NULL);
        Stand.faults("put(3, MAX, 0)", NULL);
    }

    static void promise28_anyNumberIsTaken() {
        Told.nothing().go("sheet(0, 2, 1)").is("put(0, 0, MIN)", 1).is("cell(0, 0, 2)", Integer.MIN_VALUE)
                .is("put(0, 0, MAX)", 1).is("cell(0, 0, 2)", Integer.MAX_VALUE).is("fault()", 0);
    }

    static void promise28_otherCellsStay() {
        Told.nothing().go("sheet(0, 1, 3)", "put(0, 1, 7)").is("cell(0, 0, 1)", 0).is("cell(0, 1, 1)", 7)
                .is("cell(0, 2, 1)", 0);
    }

    // ---- promise 29

    static void promise29_noSuchSheet() {
        for (String k : NO_SHEETS) {
            Stand.refuses("cell(" + k + ", 0, 0)", LOST);
        }
    }

    static void promise29_laneOutside() {
        for (String lane : NO_LANES) {
            Stand.refuses("cell(0, 0, " + lane + ")", LOST);
            Stand.refuses("cell(3, 0, " + lane + ")", LOST);
        }
    }

    static void promise29_castOfEachOtherLane() {
        for (int k = 0; k < 3; k++) {
            for (int lane = 0; lane < 3; lane++) {
                if (lane != k) {
                    Stand.faults("cell(" + k + ", 0, " + lane + ")", CAST);
                }
            }
        }
    }

    static void promise29_nothingIsNoCast() {
        for (int lane = 0; lane < 3; lane++) {
            Stand.faults("cell(3, 0, " + lane + ")", NULL);
        }
    }

    static void promise29_indexOutside() {
        for (String i : new String[] {"-1", "5", "MIN", "MAX"}) {
            Stand.faults("cell(0, " + i + ", 0)", INDEX);
        }
        Stand.refuses("cell(0, 0, 0)", 1);
        Stand.refuses("cell(0, 4, 0)", 5);
        Stand.refuses("cell(2, 5, 2)", 46);
    }

    static void promise29_unknownAndOutsideAheadOfFaults() {
        Stand.refuses("cell(4, -1, 0)", LOST);
        Stand.refuses("cell(4, -1, 3)", LOST);
        Stand.refuses("cell(0, -1, 3)", LOST);
        Stand.refuses("cell(3, -1, -1)", LOST);
        Stand.refuses("cell(MAX, MIN, MAX)", LOST);
    }

    static void promise29_castAheadOfIndex() {
        Stand.faults("cell(0, -1, 1)", CAST);
        Stand.faults("cell(0, MAX, 2)", CAST);
    }

    static void promise29_nullAheadOfIndex() {
        Stand.faults("cell(3, -1, 1)", NULL);
        Stand.faults("cell(3, MIN, 2)", NULL);
    }

    // ---- promise 30

    static void promise30_noSuchSheet() {
        for (String k : NO_SHEETS) {
            Stand.refuses("copy(" + k + ", 0, 0, 0, 1)", UNKNOWN);
            Stand.refuses("copy(0, 0, " + k + ", 0, 1)", UNKNOWN);
        }
    }

    static void promise30_theFirstIsNothing() {
        Stand.faults("copy(3, 0, 0, 0, 0)", NULL);
        Stand.faults("copy(3, 0, 0, 0, 1)", NULL);
    }

    static void promise30_theOtherIsNothing() {
        Stand.faults("copy(0, 0, 3, 0, 0)", NULL);
        Stand.faults("copy(0, 0, 3, 0, 1)", NULL);
    }

    static void promise30_bothAreNothing() {
        Stand.faults("copy(3, 0, 3, 0, 0)", NULL);
    }

    static void promise30_castOfUnlikeLanes() {
        for (int k = 0; k < 3; k++) {
            for (int other = 0; other < 3; other++) {
                if (other != k) {
                    Stand.faults("copy(" + k + ", 0, " + other + ", 0, 1)", CAST);
                    Stand.faults("copy(" + k + ", 0, " + other + ", 0, 0)", CAST);
                }
            }
        }
    }

    static void promise30_indexOfI() {
        for (String i : new String[] {"-1", "5", "MIN", "MAX"}) {
            Stand.faults("copy(0, " + i + ", 0, 0, 1)", INDEX);
        }
    }

    static void promise30_indexOfJ() {
        for (String j : new String[] {"-1", "5", "MIN", "MAX"}) {
            Stand.faults("copy(0, 0, 0, " + j + ", 1)", INDEX);
        }
    }

    static void promise30_lengthBelowZeroIsIndex() {
        Stand.faults("copy(0, 0, 0, 0, -1)", INDEX);
        Stand.faults("copy(0, 0, 0, 0, MIN)", INDEX);
        Stand.faults("copy(0, 5, 0, 5, -1)", INDEX);
    }

    static void promise30_lengthBeyondTheFirst() {
        Told told = Told.nothing().go("sheet(0, 0, 3)", "sheet(1, 0, 9)", "put(0, 2, 7)");
        told.is("copy(0, 0, 1, 0, 4)", -13).is("copy(0, 1, 1, 0, 3)", -13).is("copy(0, 3, 1, 0, 1)", -13)
                .is("cell(1, 2, 0)", 0).is("copy(0, 0, 1, 0, 3)", 3).is("cell(1, 2, 0)", 7).is("copy(0, 0, 1, 0, MAX)", -13)
                .is("copy(0, 3, 1, 0, MAX)", -13);
    }

    static void promise30_lengthBeyondTheOther() {
        Told told = Told.nothing().go("sheet(0, 0, 9)", "sheet(1, 0, 3)", "put(0, 2, 7)");
        told.is("copy(0, 0, 1, 0, 4)", -13).is("copy(0, 0, 1, 1, 3)", -13).is("copy(0, 0, 1, 3, 1)", -13)
                .is("cell(1, 2, 0)", 0).is("copy(0, 0, 1, 0, 3)", 3).is("cell(1, 2, 0)", 7);
    }

    static void promise30_indexThoughNoCellIsTaken() {
        for (String at : new String[] {"-1", "6", "MIN", "MAX"}) {
            Stand.faults("copy(0, " + at + ", 0, 0, 0)", INDEX);
            Stand.faults("copy(0, 0, 0, " + at + ", 0)", INDEX);
        }
    }

    static void promise30_noCellIsTaken() {
        Stand.refuses("copy(0, 0, 0, 0, 0)", 0);
        Stand.refuses("copy(0, 5, 0, 5, 0)", 0);
        Stand.refuses("copy(0, 5, 0, 0, 0)", 0);
    }

    static void promise30_unknownAheadOfFaults() {
        Stand.refuses("copy(3, -1, 4, -1, -1)", UNKNOWN);
        Stand.refuses("copy(4, -1, 3, -1, -1)", UNKNOWN);
        Stand.refuses("copy(MIN, MIN, MIN, MIN, MIN)", UNKNOWN);
        Stand.refuses("copy(MAX, MAX, MAX, MAX, MAX)", UNKNOWN);
    }

    static void promise30_nullAheadOfIndex() {
        Stand.faults("copy(3, -1, 0, 0, 0)", NULL);
        Stand.faults("copy(0, -1, 3, 0, -1)", NULL);
    }

    static void promise30_castAheadOfIndex() {
        Stand.faults("copy(0, -1, 1, 0, 0)", CAST);
        Stand.faults("copy(0, 0, 1, -1, 0)", CAST);
        Stand.faults("copy(0, 0, 2, 0, -1)", CAST);
    }

    static void promise30_onItselfAsTheyWere() {
        Told up = Told.nothing().go("sheet(0, 2, 4)", "put(0, 0, 1)", "put(0, 1, 2)", "put(0, 2, 3)", "put(0, 3, 4)");
        up.is("copy(0, 0, 0, 1, 3)", 3).row("cell(0, #, 2)", 1, 1, 2, 3);
        up.is("copy(0, 1, 0, 0, 3)", 3).row("cell(0, #, 2)", 1, 2, 3, 3);
        up.is("copy(0, 0, 0, 0, 4)", 4).row("cell(0, #, 2)", 1, 2, 3, 3);
    }

    static void promise30_sixtyCells() {
        Told told = Told.nothing().go("sheet(1, 1, 60)", "sheet(2, 1, 60)", "put(1, 0, 300)", "put(1, 59, -300)");
        told.is("copy(1, 0, 2, 0, 60)", 60).is("cell(2, 0, 1)", 300).is("cell(2, 59, 1)", -300)
                .is("copy(1, 0, 2, 0, 61)", -13).is("copy(1, 1, 2, 0, 60)", -13).is("cell(1, 0, 1)", 300);
    }

    static void promise30_onlyTheCellsTaken() {
        Told told = Told.nothing().go("sheet(0, 0, 4)", "sheet(1, 0, 4)", "put(0, 0, 1)", "put(0, 1, 2)", "put(0, 2, 3)",
                "put(0, 3, 4)", "put(1, 0, 9)", "put(1, 3, 9)");
        told.is("copy(0, 2, 1, 1, 2)", 2).row("cell(1, #, 0)", 9, 3, 4, 9).row("cell(0, #, 0)", 1, 2, 3, 4);
    }

    static void promise30_copiesStayApart() {
        Told.nothing().go("sheet(0, 0, 1)", "sheet(1, 0, 1)", "put(0, 0, 5)", "copy(0, 0, 1, 0, 1)", "put(0, 0, 6)")
                .is("cell(1, 0, 0)", 5);
    }

    // ---- promises 31 and 32

    static void promise31_noSuchInn() {
        for (String k : NO_INNS) {
            Stand.refuses("tell(" + k + ")", UNKNOWN);
        }
        Told.of("i,n1,l2,c3;>2+00").row("tell(#)", 1, 102, 106, UNKNOWN);
    }

    static void promise31_withoutRidge() {
        Stand.bareRefuses("tell(0)", UNKNOWN);
        Stand.bareRefuses("tell(-1)", UNKNOWN);
    }

    static void promise31_inchesAtFirst() {
        Told.of("i,n1,l2;>5+00").is("deep(0, 1)", 4).is("tell(0)", 1).is("tell(1)", 102).go("sweep(1, false, 2)")
                .is("tell(0)", 3).is("tell(1)", 100);
    }

    static void promise31_lastOfSixInns() {
        Told.of("i,n0,n0,n0,n0,n0,c9;>2+00").is("tell(5)", 118).is("tell(6)", UNKNOWN);
    }

    static void promise32_noSuchInn() {
        for (String k : NO_INNS) {
            Stand.refuses("light(" + k + ")", UNKNOWN);
        }
        Told.of("i,n1,l2,c3;>2+00").row("light(#)", 0, 1, 80, UNKNOWN);
    }

    static void promise32_withoutRidge() {
        Stand.bareRefuses("light(0)", UNKNOWN);
        Stand.bareRefuses("light(-1)", UNKNOWN);
    }

    static void promise32_lastOfSixInns() {
        Told.of("i,n0,n0,n0,n0,n0,l9;>2+00").is("light(5)", 5).is("light(6)", UNKNOWN);
        Told.of("i,n0,n0,n0,n0,n0,c9;>2+00").is("light(5)", 80);
    }

    // ---- promise 33

    static void promise33_noSuchInn() {
        for (String k : NO_INNS) {
            Stand.refuses("as(" + k + ", 0)", UNKNOWN);
        }
    }

    static void promise33_kindOutside() {
        for (String kind : new String[] {"-1", "3", "MIN", "MAX"}) {
            Stand.refuses("as(0, " + kind + ")", OUTSIDE);
            Stand.refuses("as(2, " + kind + ")", OUTSIDE);
        }
    }

    static void promise33_castOfNone() {
        Stand.faults("as(0, 1)", CAST);
        Stand.faults("as(0, 2)", CAST);
        Stand.faults("as(1, 2)", CAST);
    }

    static void promise33_isOneOfEachKindAheadOfIt() {
        for (String of : new String[] {"0, 0", "1, 0", "1, 1", "2, 0", "2, 1", "2, 2"}) {
            Stand.refuses("as(" + of + ")", 1);
        }
    }

    static void promise33_unknownAheadOfOutside() {
        Stand.refuses("as(3, 3)", UNKNOWN);
        Stand.refuses("as(-1, -1)", UNKNOWN);
    }

    static void promise33_withoutRidge() {
        Stand.bareRefuses("as(0, 0)", UNKNOWN);
        Stand.bareRefuses("as(0, 3)", UNKNOWN);
    }

    // ---- promise 34

    static void promise34_zeroAtFirst() {
        Told.nothing().is("trace()", 0);
        Told.of("i,n1,l2,c3;>2+00").is("trace()", 0);
    }

    static void promise34_refusedLeavesNothing() {
        Told.of("i,n1,l2,c3;>2+00").go("tell(3)", "light(3)", "tell(MIN)", "light(MAX)").is("trace()", 0);
    }

    static void promise34_otherCallsLeaveNothing() {
        Told.of("i,n1,l2,c3;>2+00").go("as(2, 1)", "ofInn(2, 2)", "kinds(0)", "where(0, 1)").is("trace()", 0).is("trace()", 0);
    }

    static void promise34_goesOnBehindAnotherText() {
        Told told = Told.of("i,n1,l2,c3;>2+00").go("light(2)");
        told.ridge("i,n0,n0;>0+00");
        told.is("trace()", 5).go("tell(0)").is("trace()", 5 * 31 + 1);
    }

    // ---- promise 35

    static void promise35_zeroAheadOfAny() {
        Told.nothing().is("fault()", 0);
        Told.nothing().go("lose(0)", "many(9)", "tell(0)", "rules()").is("fault()", 0);
    }

    static void promise35_eachFault() {
        Told.nothing().go("put(0, 0, 0)").is("fault()", NULL).go("sheet(0, 0, -1)").is("fault()", SIZE)
                .go("sheet(0, 0, 1)").is("fault()", 0).go("put(0, 1, 0)").is("fault()", INDEX).go("cell(0, 0, 1)")
                .is("fault()", CAST).is("fault()", CAST);
    }

    static void promise35_noneBehindACallThatComesToNone() {
        String[] good = {"ridge(0, 0, 0, 13)", "list(0, 0, 0, 0, 0)", "sheet(1, 0, 0)", "put(0, 0, 0)", "cell(0, 0, 0)",
            "copy(0, 0, 0, 0, 0)", "as(0, 0)"};
        for (String call : good) {
            Told told = Told.of("i,n0,n0;>0+00").go("sheet(0, 0, 13)");
            Due.write(told.x, 0, 0, "i,n0,n0;>0+00");
            told.go("put(0, 13, 0)").is("fault()", INDEX).go(call).is("fault()", 0);
        }
    }

    static void promise35_noneBehindARefusal() {
        String[] refused = {"ridge(4, 0, 0, 0)", "ridge(0, 3, 0, 0)", "ridge(0, 0, 0, 0)", "list(0, 4, 0, 0, 0)",
            "list(0, 0, 3, 0, 0)", "list(9, 0, 0, 0, 0)", "list(0, 0, 0, 0, 2)", "sheet(4, 0, 0)", "sheet(0, 3, 0)",
            "sheet(0, 0, 61)", "put(4, 0, 0)", "cell(4, 0, 0)", "cell(0, 0, 3)", "copy(4, 0, 0, 0, 0)",
            "copy(0, 0, 4, 0, 0)", "as(9, 0)", "as(0, 3)"};
        for (String call : refused) {
            Told.of("i,n0,n0;>0+00").go("sheet(0, 0, 3)", "put(0, 3, 0)").is("fault()", INDEX).go(call).is("fault()", 0);
        }
    }

    static void promise35_staysBehindCallsThatNameNone() {
        String[] calls = {"ofInn(0, 0)", "ofInn(9, 0)", "ofGuest(0, 0)", "ofNight(0, 0)", "rule(1)", "rule(9)", "fall(0, 0)",
            "gust(0, true)", "lodge(0, 0)", "sweep(0, true, 0)", "where(0, 0)", "deep(0, 0)", "beds(0, 0)", "meet(0)",
            "least(0, 0)", "turn(0, 0)", "corks(0)", "reading(0, 0, 0)", "back(0)", "rules()", "kinds(0)", "depths(0)",
            "falls(0)", "odds(0, 0, 0)", "odds(9, 0, 0)", "lose(0)", "lose(9)", "tell(0)", "light(0)", "trace()", "fault()",
            "many(0)", "many(9)"};
        for (String call : calls) {
            Told.of("i,n0,n0;>0+00").go("put(0, 0, 0)", call).is("fault()", NULL);
        }
    }

    // ---- promise 36

    static void promise36_outside() {
        for (String what : new String[] {"-1", "5", "MIN", "MAX"}) {
            Stand.refuses("many(" + what + ")", OUTSIDE);
            Stand.bareRefuses("many(" + what + ")", OUTSIDE);
        }
    }

    static void promise36_withoutRidge() {
        Told.nothing().row("many(#)", 0, 0, 0, 0, 0, OUTSIDE);
    }

    static void promise36_fewestOfAll() {
        Told.of("i,n0,n0;>0+00").row("many(#)", 2, 1, 1, 0, 0, OUTSIDE);
    }

    static void promise36_mostOfAll() {
        Told told = Told.of("i,n0,n0,n0,n0,n0,n0;>0>0>0>0>0>0>0>0+00+00+00+00+00+00+00+00").go("rule(1)");
        for (int r = 0; r < 8; r++) {
            told.is("reading(0, 0, 0)", r);
        }
        told.row("many(#)", 6, 8, 8, 1, 8, OUTSIDE);
    }
}
