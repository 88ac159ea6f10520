/** The edges that the document's 'Terms' name, each in a case of its own. */
public final class TermsEdgesTest {
    private static final int NONE = SnowInns.NONE, OUTSIDE = SnowInns.OUTSIDE;
    private static final long LOST = SnowInns.LOST;

    public static void main(String[] args) {
        Cases.run(TermsEdgesTest.class, 1, 0);
    }

    static void terms_numbersOfRefusals() {
        Told.nothing().is("ofInn(0, 0)", -1).is("rule(2)", -2).is("rules()", -3);
        Told told = Told.of("i,n9,n9;>2+00");
        for (int r = 0; r < 8; r++) {
            told.go("reading(0, 0, 0)");
        }
        told.is("reading(0, 0, 0)", -4);
    }

    static void terms_numbersOfFaults() {
        Told.nothing().is("put(0, 0, 0)", -11).is("fault()", 1).go("sheet(0, 0, 1)").is("ridge(0, 1, 0, 0)", -12)
                .is("fault()", 2).is("put(0, 1, 0)", -13).is("fault()", 3).is("sheet(0, 0, -1)", -14).is("fault()", 4);
    }

    static void terms_lostWhereALongIsAnswered() {
        Told told = Told.nothing().is("odds(0, 0, 0)", Long.MIN_VALUE).is("cell(4, 0, 0)", Long.MIN_VALUE);
        told.is("cell(0, 0, 0)", LOST).is("fault()", 1).go("sheet(0, 0, 0)").is("cell(0, 0, 1)", LOST).is("fault()", 2)
                .is("cell(0, 0, 0)", LOST).is("fault()", 3);
    }

    static void terms_lostIsNoCell() {
        Told.nothing().go("sheet(0, 2, 1)", "put(0, 0, MIN)").is("cell(0, 0, 2)", Integer.MIN_VALUE).is("fault()", 0);
    }

    static void terms_indexWhereNoCellIsTaken() {
        Told told = Told.of("i,n9,n9;>2+00").go("sheet(0, 0, 3)");
        for (String i : new String[] {"-1", "4", "MIN", "MAX"}) {
            told.is("ridge(0, 0, " + i + ", 0)", -13).is("list(0, 0, 0, " + i + ", 0)", -13)
                    .is("copy(0, " + i + ", 0, 0, 0)", -13).is("copy(0, 0, 0, " + i + ", 0)", -13);
        }
    }

    static void terms_noIndexJustBehindTheLastCell() {
        Told.of("i,n9,n9;>2+00").go("sheet(0, 0, 3)").is("ridge(0, 0, 3, 0)", -100).is("list(0, 0, 0, 3, 0)", NONE)
                .is("copy(0, 3, 0, 3, 0)", 0).is("fault()", 0);
    }

    static void terms_sizeIsALengthBelowZero() {
        Told told = Told.of("i,n9,n9;>2+00").go("sheet(0, 0, 3)");
        for (String n : new String[] {"-1", "MIN"}) {
            told.is("ridge(0, 0, 0, " + n + ")", -14).is("list(0, 0, 0, 0, " + n + ")", -14)
                    .is("sheet(0, 0, " + n + ")", -14).is("copy(0, 0, 0, 0, " + n + ")", -13);
        }
        told.is("ridge(0, 0, 0, 0)", -100).is("list(0, 0, 0, 0, 0)", NONE).is("sheet(0, 0, 0)", 1);
    }

    static void terms_noneIsMinusNine() {
        Told.of("i,n0,n0;>2+00").is("meet(0)", -9).is("turn(0, 1)", -9).is("least(1, 0)", -9).is("least(1, 1)", -9)
                .is("least(1, 2)", -9).go("sheet(0, 0, 0)").is("list(0, 0, 0, 0, 0)", -9);
    }

    static void terms_greatestBitsOfSets() {
        Told told = Told.of("i,n9,n9,n9,n9,n9,n0;>2+00+00+00+00+00+00+00+05");
        told.is("beds(6, 1)", 128).is("corks(0)", 32).is("rules()", 3).is("kinds(5)", 7).is("depths(5)", 1023)
                .is("falls(0)", 63);
    }

    static void terms_emptySets() {
        Told.of("i,n9,n9;>2+00").go("reading(0, 0, 0)", "reading(0, 1, 0)").is("rules()", 0).is("kinds(0)", 0)
                .is("depths(0)", 0).is("falls(0)", 0).is("corks(0)", 0).is("beds(1, 0)", 0);
    }

    static void terms_sharesInLeastTerms() {
        Told never = Told.of("i,n0,n0;>2>2>2+00");
        never.row("odds(0, #, 0)", 0, 0, 0, 0).row("odds(0, #, 1)", 1, 1, 1, 1);
        Told always = Told.of("i,n9,n9;>2>2>2+00");
        always.row("odds(0, #, 0)", 0, 1, 1, 1).row("odds(0, #, 1)", 1, 1, 1, 1);
        Told half = Told.of("i,n1,n0;>2>0>0+01");
        half.row("odds(0, #, 0)", 0, 1, 1, 1).row("odds(0, #, 1)", 1, 2, 2, 2);
    }

    static void terms_theFirstRefusalInTheOrderOfItsLine() {
        // Of each call with refusals of several names, one that deserves all of them.
        Told.nothing().is("ofNight(-1, -1)", -3).is("rule(-1)", -2).is("fall(-1, -1)", -3).is("gust(-1, true)", -3)
                .is("list(-1, -1, -1, -1, -1)", -1).is("list(-1, 0, -1, -1, -1)", -2).is("list(-1, 0, 0, -1, -1)", -3)
                .is("least(-1, -1)", -2).is("corks(-1)", -3).is("falls(-1)", -3).is("sheet(-1, -1, -1)", -1)
                .is("sheet(0, -1, -1)", -2).is("ridge(-1, -1, -1, -1)", -1).is("ridge(0, -1, -1, -1)", -2)
                .is("ridge(0, 0, -1, -1)", -11).is("turn(-1, -1)", -1).is("where(-1, -1)", -1).is("as(-1, -1)", -1);
    }

    static void terms_answersUpToThe512thCall() {
        Told told = Told.of("i,n1,n0;>2+01+11");
        // The text took 1 + 16 + 1 + 1 calls; whatever the calls in between are, the last ones still answer.
        for (int call = 19; call < 509; call++) {
            told.go(call % 2 == 0 ? "tell(0)" : "odds(0, 1, 0)");
        }
        told.is("where(0, 1)", 2).is("odds(0, 1, 1)", 2).is("many(9)", OUTSIDE);
    }
}
