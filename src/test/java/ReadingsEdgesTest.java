/** The edges of promises 19 to 25 and of '4 READINGS', each in a case of its own. */
public final class ReadingsEdgesTest {
    private static final int UNKNOWN = SnowInns.UNKNOWN, OUTSIDE = SnowInns.OUTSIDE, STATE = SnowInns.STATE;
    private static final int FULL = SnowInns.FULL;
    private static final long LOST = SnowInns.LOST;
    private static final String EIGHT_TIMES_UP = ";>2>2>2>2>2>2>2>2";

    public static void main(String[] args) {
        Cases.run(ReadingsEdgesTest.class, 19, 25);
    }

    private static Told withReadings(String text, int many, String reading) {
        Told told = Told.of(text);
        for (int r = 0; r < many; r++) {
            told.is(reading, r);
        }
        return told;
    }

    // ---- 4 READINGS

    static void block4_eightReadingsAreTheMost() {
        withReadings("i,n9,n9;>2+00", 8, "reading(0, 0, 0)").is("many(4)", 8).is("reading(0, 0, 0)", FULL)
                .is("many(4)", 8).is("reading(0, 1, 0)", FULL).is("rules()", 3);
    }

    static void block4_theEighthReadingCounts() {
        withReadings("i,n9,n9;>2+00", 7, "reading(0, 0, 0)").is("rules()", 3).is("reading(0, 1, 0)", 7)
                .is("rules()", 0).is("back(1)", 7).is("rules()", 3);
    }

    static void block4_theFirstReadingCounts() {
        Told told = Told.of("i,n9,n9;>2+00").go("reading(0, 1, 0)");
        for (int r = 1; r < 8; r++) {
            told.is("reading(0, 0, 0)", r);
        }
        told.is("rules()", 0).is("back(7)", 1).is("rules()", 0).is("back(1)", 0).is("rules()", 3);
    }

    static void block4_numberedByHowManyThereAre() {
        Told.of("i,n9,n9;>2+00").is("reading(0, 0, 0)", 0).is("reading(0, 0, 0)", 1).is("back(1)", 1)
                .is("reading(0, 0, 0)", 1).is("back(2)", 0).is("reading(0, 0, 0)", 0);
    }

    static void block4_fullNoMoreBehindBack() {
        withReadings("i,n9,n9;>2+00", 8, "reading(0, 0, 0)").is("back(1)", 7).is("reading(0, 0, 0)", 7)
                .is("reading(0, 0, 0)", FULL);
    }

    static void block4_readingsOfTheRoad() {
        Told.of("i,n0,n0;>2+00").is("reading(0, 2, 0)", 0).is("rules()", 3).is("kinds(0)", 1).is("kinds(1)", 1)
                .is("depths(0)", 1).is("depths(1)", 1).is("falls(0)", 7);
    }

    static void block4_readingsAreOfTheNightItself() {
        // Behind night 0 the guest is at INN 1, ahead of it at INN 0, behind night 1 on the road.
        Told.of("i,n0,n1;>2>1+00").is("reading(0, 1, 0)", 0).is("rules()", 3).is("reading(0, 2, 1)", 1).is("rules()", 3)
                .is("reading(0, 0, 0)", 2).is("rules()", 0);
    }

    static void block4_withoutReadingsAllMayBe() {
        Told.of("i,n0,n0;>2>2+00").is("rules()", 3).is("kinds(0)", 7).is("kinds(1)", 7).is("depths(0)", 1023)
                .is("depths(1)", 1023).is("falls(0)", 63).is("falls(1)", 63);
    }

    static void block4_nothingMayBe() {
        Told.of("i,n9,n9;>2+00").go("reading(0, 0, 0)", "reading(0, 1, 0)").is("rules()", 0).is("kinds(0)", 0)
                .is("depths(0)", 0).is("falls(0)", 0);
    }

    static void block4_whatItIsNeedNotBe() {
        Told.of("i,n0,n0;>2+00").go("reading(0, 0, 0)").is("rules()", 0).is("kinds(0)", 6).is("depths(0)", 1022)
                .is("falls(0)", 56);
    }

    static void block4_oneThingAloneIsAnother() {
        // A guest each in INNS 0 and 1: neither of the two alone makes room for both.
        Told.of("i,n0,n0;>2+00+01").go("reading(0, 0, 0)", "reading(1, 1, 0)").is("kinds(0)", 0).is("kinds(1)", 0)
                .is("depths(0)", 0).is("depths(1)", 0).is("falls(0)", 56);
    }

    static void block4_asThingsAreNow() {
        Told.of("i,n1,n9;>2+00+00").go("reading(0, 0, 0)").is("depths(0)", 1022).go("rule(1)").is("depths(0)", 1020)
                .is("rules()", 1).go("fall(0, 1)").is("depths(0)", 1016);
    }

    static void block4_readingsOfTheLastOfAll() {
        Told.of("i,n0,n0,n0,n0,n0,n0" + EIGHT_TIMES_UP + "+00+00+00+00+00+00+00+05").is("reading(7, 6, 7)", 0)
                .is("rules()", 3).is("reading(7, 5, 7)", 1).is("rules()", 0);
    }

    // ---- 4 ODDS

    private static void oddsAre(String text, int n, long upper, long lower) {
        Told.of(text).is("odds(0, " + n + ", 0)", upper).is("odds(0, " + n + ", 1)", lower);
    }

    static void block4_oddsOfNoNights() {
        oddsAre("i,n9,n9;>2+00", 0, 0, 1);
    }

    static void block4_oddsNever() {
        oddsAre("i,n0,n0" + EIGHT_TIMES_UP + "+00", 1, 0, 1);
        oddsAre("i,n0,n0" + EIGHT_TIMES_UP + "+00", 8, 0, 1);
    }

    static void block4_oddsAlways() {
        oddsAre("i,n9,n9" + EIGHT_TIMES_UP + "+00", 1, 1, 1);
        oddsAre("i,n9,n9" + EIGHT_TIMES_UP + "+00", 8, 1, 1);
    }

    static void block4_oddsInLeastTerms() {
        oddsAre("i,n1,n0;>2>2>0+01", 1, 1, 2);
        oddsAre("i,n1,n0;>2>2>0+01", 2, 3, 4);
        oddsAre("i,n1,n0;>2>2>0+01", 3, 3, 4);
        oddsAre("i,n1,n0;>2>2>0>0>0>0>0>0+01", 8, 3, 4);
        oddsAre("i,c0,n1;>2>0+00+01", 2, 1, 2);
        oddsAre("i,n0,c0,n2;<2>0+00+02", 2, 1, 4);
    }

    static void block4_oddsOfEightNights() {
        oddsAre("i,n1,n0" + EIGHT_TIMES_UP + "+01", 8, 255, 256);
        oddsAre("i,n1,n0" + EIGHT_TIMES_UP + "+01", 7, 127, 128);
    }

    static void block4_oddsWhateverTheWindsAre() {
        Told.of("i,n1,n0;>2>2+01").is("odds(0, 2, 0)", 3).go("gust(0, true)", "gust(1, true)").is("odds(0, 2, 0)", 3)
                .is("odds(0, 2, 1)", 4).is("ofNight(0, 0)", 1).is("ofNight(1, 0)", 1);
    }

    static void block4_oddsWhateverTheReadingsAre() {
        Told.of("i,n1,n0;>2>2+01").go("reading(0, 2, 0)", "reading(0, 2, 1)").is("odds(0, 2, 0)", 3)
                .is("odds(0, 2, 1)", 4);
    }

    static void block4_oddsByTheRule() {
        Told.of("i,n1,n9;>2+00+10").is("odds(0, 1, 0)", 1).is("odds(0, 1, 1)", 1).go("rule(1)").is("odds(0, 1, 0)", 1)
                .is("odds(0, 1, 1)", 2);
    }

    static void block4_oddsBehindNoNightsIsNoMeeting() {
        oddsAre("i,n1,n9;>2+00+00", 1, 0, 1);
    }

    // ---- promise 19

    static void promise19_noSuchGuest() {
        for (String g : new String[] {"-1", "4", "MIN", "MAX"}) {
            Stand.refuses("reading(" + g + ", 0, 0)", UNKNOWN);
        }
        Told.of("i,n0,n0;>2+00+00").is("reading(0, 2, 0)", 0).is("reading(1, 2, 0)", 1).is("reading(2, 2, 0)", UNKNOWN);
    }

    static void promise19_noSuchInn() {
        for (String k : new String[] {"-1", "4", "MIN", "MAX"}) {
            Stand.refuses("reading(0, " + k + ", 0)", UNKNOWN);
        }
        Told.of("i,n0,n0,n0;>2+00").is("reading(0, 0, 0)", 0).is("reading(0, 2, 0)", 1);
    }

    static void promise19_theRoadIsAsManyAsInns() {
        Told.of("i,n0,n0,n0;>2+00").is("reading(0, 3, 0)", 0).is("reading(0, 4, 0)", UNKNOWN);
    }

    static void promise19_noSuchNight() {
        for (String night : new String[] {"-1", "3", "MIN", "MAX"}) {
            Stand.refuses("reading(0, 0, " + night + ")", OUTSIDE);
        }
        Told.of("i,n0,n0;>2>2>2+00").is("reading(0, 2, 0)", 0).is("reading(0, 2, 2)", 1).is("reading(0, 2, 3)", OUTSIDE);
    }

    static void promise19_guestAheadOfInnAheadOfNight() {
        Stand.refuses("reading(4, 4, 3)", UNKNOWN);
        Stand.refuses("reading(4, 0, 3)", UNKNOWN);
        Stand.refuses("reading(0, 4, 3)", UNKNOWN);
        Stand.refuses("reading(-1, -1, -1)", UNKNOWN);
    }

    static void promise19_unknownAndOutsideAheadOfFull() {
        Told told = withReadings("i,n9,n9;>2+00", 8, "reading(0, 0, 0)");
        told.is("reading(1, 0, 0)", UNKNOWN).is("reading(0, 3, 0)", UNKNOWN).is("reading(0, 0, 1)", OUTSIDE)
                .is("reading(0, 0, -1)", OUTSIDE).is("reading(0, 0, 0)", FULL);
    }

    static void promise19_fullChangesNothing() {
        Told told = withReadings("i,n9,n9;>2+00", 8, "reading(0, 0, 0)").is("reading(0, 1, 0)", FULL);
        Told untouched = withReadings("i,n9,n9;>2+00", 8, "reading(0, 0, 0)");
        Cases.same("full", Stand.seen(told.x), Stand.seen(untouched.x));
    }

    static void promise19_withoutRidge() {
        Stand.bareRefuses("reading(0, 0, 0)", UNKNOWN);
        Stand.bareRefuses("reading(-1, -1, -1)", UNKNOWN);
    }

    static void promise19_whatCannotBeIsTakenToo() {
        Told.of("i,n9,n9;>2+00").is("reading(0, 2, 0)", 0).is("many(4)", 1).is("rules()", 0);
    }

    // ---- promise 20

    static void promise20_outside() {
        for (String k : new String[] {"-1", "3", "MIN", "MAX"}) {
            Stand.refuses("back(" + k + ")", OUTSIDE);
        }
        Told.of("i,n9,n9;>2+00").go("reading(0, 0, 0)", "reading(0, 1, 0)").is("back(2)", 0).is("many(4)", 0)
                .is("back(1)", OUTSIDE);
    }

    static void promise20_noneTakenBack() {
        Told.of("i,n9,n9;>2+00").go("reading(0, 0, 0)").is("back(0)", 1).is("many(4)", 1);
    }

    static void promise20_ofNone() {
        Told.of("i,n9,n9;>2+00").is("back(0)", 0).is("back(1)", OUTSIDE).is("back(-1)", OUTSIDE);
    }

    static void promise20_ofEight() {
        withReadings("i,n9,n9;>2+00", 8, "reading(0, 0, 0)").is("back(9)", OUTSIDE).is("many(4)", 8).is("back(8)", 0)
                .is("many(4)", 0);
    }

    static void promise20_theLastOnes() {
        Told.of("i,n9,n9;>2+00").go("reading(0, 0, 0)", "reading(0, 1, 0)", "reading(0, 2, 0)").is("rules()", 0)
                .is("back(2)", 1).is("rules()", 3).is("kinds(0)", 7);
    }

    static void promise20_withoutRidge() {
        Told.nothing().is("back(0)", 0);
        Stand.bareRefuses("back(1)", OUTSIDE);
        Stand.bareRefuses("back(-1)", OUTSIDE);
        Stand.bareRefuses("back(MIN)", OUTSIDE);
        Stand.bareRefuses("back(MAX)", OUTSIDE);
    }

    static void promise20_behindAnotherText() {
        Told told = Told.of("i,n9,n9;>2+00").go("reading(0, 0, 0)");
        told.ridge("i,n0,n0;>2+00");
        told.is("many(4)", 0).is("back(1)", OUTSIDE).is("back(0)", 0).is("reading(0, 0, 0)", 0);
    }

    // ---- promise 21

    static void promise21_withoutRidge() {
        Stand.bareRefuses("rules()", STATE);
    }

    static void promise21_eachSet() {
        Told.of("i,n1,n9;>2+00+00").is("rules()", 3).go("reading(0, 0, 0)").is("rules()", 1).go("reading(1, 0, 0)")
                .is("rules()", 0).go("back(2)", "reading(1, 0, 0)").is("rules()", 2).go("rule(1)").is("rules()", 2);
    }

    static void promise21_changesNothing() {
        Told told = Told.of("i,n1,n9;>2+00+00").go("reading(0, 0, 0)", "rules()").is("many(3)", 0);
        told.go("rule(1)", "rules()").is("many(3)", 1);
    }

    // ---- promise 22

    static void promise22_noSuchInn() {
        for (String k : new String[] {"-1", "3", "4", "MIN", "MAX"}) {
            Stand.refuses("kinds(" + k + ")", UNKNOWN);
        }
        Told.of("i,n0,n0,n0;>2+00").row("kinds(#)", 7, 7, 7, UNKNOWN);
    }

    static void promise22_withoutRidge() {
        Stand.bareRefuses("kinds(0)", UNKNOWN);
        Stand.bareRefuses("kinds(-1)", UNKNOWN);
    }

    static void promise22_eachKindAlone() {
        Told told = Told.of("i,n0,n9;>2+00+00");
        told.go("reading(0, 1, 0)").is("kinds(0)", 1);
        told.go("back(1)", "reading(0, 0, 0)", "reading(1, 1, 0)").is("kinds(0)", 2);
        told.go("back(1)", "reading(1, 0, 0)").is("kinds(0)", 4).is("kinds(1)", 0);
    }

    static void promise22_lastOfSixInns() {
        Told.of("i,n0,n0,n0,n0,n0,c0;>2+05+05").go("reading(1, 5, 0)").is("kinds(5)", 4).is("kinds(6)", UNKNOWN)
                .is("ofInn(5, 0)", 2);
    }

    static void promise22_changesNothing() {
        Told.of("i,n0,l0,c0;>2+00").go("kinds(0)", "kinds(1)", "kinds(2)").is("ofInn(0, 0)", 0).is("ofInn(1, 0)", 1)
                .is("ofInn(2, 0)", 2);
    }

    // ---- promise 23

    static void promise23_noSuchInn() {
        for (String k : new String[] {"-1", "3", "4", "MIN", "MAX"}) {
            Stand.refuses("depths(" + k + ")", UNKNOWN);
        }
        Told.of("i,n0,n0,n0;>2+00").row("depths(#)", 1023, 1023, 1023, UNKNOWN);
    }

    static void promise23_withoutRidge() {
        Stand.bareRefuses("depths(0)", UNKNOWN);
        Stand.bareRefuses("depths(-1)", UNKNOWN);
    }

    static void promise23_noneAlone() {
        Told.of("i,n9,n9;>2+00").go("reading(0, 1, 0)").is("depths(0)", 1);
    }

    static void promise23_nineAlone() {
        Told.of("i,n0,n9;>0>0>0>0+00").go("reading(0, 0, 3)").is("depths(0)", 512);
    }

    static void promise23_inchesAtFirst() {
        // 3 at first are 1 in the night that was read.
        Told.of("i,n0,n9;>0+00+00").go("reading(0, 0, 0)", "reading(1, 1, 0)").is("depths(0)", 8);
    }

    static void promise23_changesNothing() {
        Told.of("i,n4,n9;>2+00").go("depths(0)", "depths(1)").is("ofInn(0, 1)", 4).is("ofInn(1, 1)", 9).is("deep(0, 1)", 4);
    }

    // ---- promise 24

    static void promise24_noSuchNight() {
        for (String night : new String[] {"-1", "3", "MIN", "MAX"}) {
            Stand.refuses("falls(" + night + ")", OUTSIDE);
        }
        Told.of("i,n0,n0;>2>2>2+00").row("falls(#)", 63, 63, 63, OUTSIDE);
    }

    static void promise24_stateAheadOfOutside() {
        for (String night : new String[] {"0", "-1", "MIN", "MAX"}) {
            Stand.bareRefuses("falls(" + night + ")", STATE);
        }
    }

    static void promise24_noneAlone() {
        Told.of("i,n2,n9;>2+00").go("reading(0, 1, 0)").is("falls(0)", 1);
    }

    static void promise24_fiveAlone() {
        Told.of("i,n0,n9;>2+00+00+00").go("reading(2, 0, 0)").is("falls(0)", 32);
    }

    static void promise24_lastOfEightNights() {
        Told.of("i,n0,n9" + EIGHT_TIMES_UP + "+00").go("reading(0, 1, 7)").is("falls(7)", 63).is("falls(0)", 7)
                .is("falls(8)", OUTSIDE);
    }

    static void promise24_changesNothing() {
        Told.of("i,n4,n9;>3>1+00").go("falls(0)", "falls(1)").is("ofNight(0, 1)", 3).is("ofNight(1, 1)", 1);
    }

    // ---- promise 25

    static void promise25_noSuchFamily() {
        for (String f : new String[] {"-1", "2", "4", "MIN", "MAX"}) {
            Stand.refuses("odds(" + f + ", 0, 0)", LOST);
        }
        Told.of("i,n9,n9;>2+00+30").is("odds(0, 1, 0)", 1).is("odds(3, 1, 0)", 1).is("odds(1, 1, 0)", LOST);
    }

    static void promise25_nightsOutside() {
        for (String n : new String[] {"-1", "4", "MIN", "MAX", "32", "64"}) {
            Stand.refuses("odds(0, " + n + ", 0)", LOST);
        }
        Told.of("i,n9,n9;>2>2>2+00").is("odds(0, 0, 0)", 0).is("odds(0, 3, 0)", 1).is("odds(0, 4, 0)", LOST);
    }

    static void promise25_whichOutside() {
        for (String which : new String[] {"-1", "2", "MIN", "MAX"}) {
            Stand.refuses("odds(0, 0, " + which + ")", LOST);
        }
        Told.of("i,n1,n0;>2+01").is("odds(0, 1, 0)", 1).is("odds(0, 1, 1)", 2).is("odds(0, 1, 2)", LOST);
    }

    static void promise25_withoutRidge() {
        Stand.bareRefuses("odds(0, 0, 0)", LOST);
        Stand.bareRefuses("odds(-1, -1, -1)", LOST);
    }

    static void promise25_changesNothing() {
        SnowInns x = Told.of("i,n1,n0;>2<0>2+01+11").go("odds(0, 3, 0)", "odds(1, 3, 1)").x;
        Cases.same("odds", Stand.seen(x), Stand.seen(Told.of("i,n1,n0;>2<0>2+01+11").x));
    }
}
