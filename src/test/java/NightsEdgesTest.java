/** The edges of promises 11 to 14 and of '2 A NIGHT', each in a case of its own. */
public final class NightsEdgesTest {
    private static final int UNKNOWN = SnowInns.UNKNOWN, OUTSIDE = SnowInns.OUTSIDE, STATE = SnowInns.STATE;
    private static final int NONE = SnowInns.NONE;
    private static final int NULL = 1, CAST = 2, INDEX = 3, SIZE = 4;
    private static final String GREATEST = "i,n0,n0,n0,n0,n0,n1;>2>2>2>2>2>2>2<2+00+00+00+00+00+00+00+00";

    public static void main(String[] args) {
        Cases.run(NightsEdgesTest.class, 11, 14);
    }

    // ---- 2 A NIGHT: the snow

    static void block2_noneBelowZero() {
        Told.of("i,n0,n1,n2,n3;>0+00").row("deep(#, 1)", 0, 0, 0, 1);
        Told.of("i,n0,n1,n2,n3;>1+00").row("deep(#, 1)", 0, 0, 1, 2);
    }

    static void block2_nineAtMost() {
        Told.of("i,n9,n8,n7,n6,n5;>5+00").row("deep(#, 1)", 9, 9, 9, 9, 8);
        Told.of("i,n9,n8,n7;>3+00").row("deep(#, 1)", 9, 9, 8);
    }

    static void block2_asMuchFallsAsMelts() {
        Told.of("i,n0,n1,n8,n9;>2+00").row("deep(#, 1)", 0, 1, 8, 9);
    }

    static void block2_everyFall() {
        for (int fall = 0; fall <= 5; fall++) {
            Told told = Told.of("i,n0,n4,n9;>" + fall + "+00");
            told.is("deep(0, 1)", Math.max(0, fall - 2)).is("deep(1, 1)", 2 + fall)
                    .is("deep(2, 1)", Math.min(9, 7 + fall));
        }
    }

    static void block2_cutInEachNight() {
        Told.of("i,n0,n9;>0>5+00").row("deep(0, #)", 0, 0, 3).row("deep(1, #)", 9, 7, 9);
        Told.of("i,n1,n9;>5>0+00").row("deep(0, #)", 1, 4, 2).row("deep(1, #)", 9, 9, 7);
    }

    static void block2_eightNightsOfSnow() {
        Told.of("i,n0,n9;>5>5>5>5>0>0>0>0+00").row("deep(0, #)", 0, 3, 6, 9, 9, 7, 5, 3, 1)
                .row("deep(1, #)", 9, 9, 9, 9, 9, 7, 5, 3, 1);
    }

    // ---- 2 A NIGHT: who is kept

    static void block2_keepsAsManyAsThereAre() {
        Told.of("i,n2,n9;>2+00+00").is("beds(0, 1)", 3).is("beds(1, 1)", 0).is("beds(2, 1)", 0);
    }

    static void block2_oneMoreThanItKeeps() {
        Told.of("i,n2,n9;>2+00+00+00").is("beds(0, 1)", 3).is("beds(1, 1)", 4).is("beds(2, 1)", 0);
    }

    static void block2_keepsMoreThanThereAre() {
        Told.of("i,c9,n0;>2+00").is("beds(0, 1)", 1).is("beds(1, 1)", 0).is("beds(2, 1)", 0);
    }

    static void block2_keepsNobody() {
        Told.of("i,n0,n0;>2+00+01").is("beds(0, 1)", 0).is("beds(1, 1)", 0).is("beds(2, 1)", 3);
    }

    static void block2_nobodyIsThere() {
        Told.of("i,n9,n9,n9;>2+02").is("beds(0, 1)", 0).is("beds(1, 1)", 0).is("beds(2, 1)", 1);
    }

    static void block2_keepsByTheSnowOfThisNight() {
        Told.of("i,n2,n9;>1+00+00").is("beds(0, 1)", 1).is("beds(1, 1)", 2);
        Told.of("i,n1,n9;>3+00+00").is("beds(0, 1)", 3).is("beds(1, 1)", 0);
    }

    static void block2_eightGuestsInOneInn() {
        Told.of("i,n8,n0;>2+00+00+00+00+00+00+00+00").is("beds(0, 1)", 255).is("beds(2, 1)", 0);
        Told.of("i,n7,n0;>2+00+00+00+00+00+00+00+00").is("beds(0, 1)", 127).is("beds(2, 1)", 128);
    }

    static void block2_leastNumbersByRuleZero() {
        Told.of("i,n1,n1;>2+00+00+00").is("beds(0, 1)", 1).is("beds(1, 1)", 2).is("beds(2, 1)", 4);
    }

    static void block2_greatestNumbersByRuleOne() {
        Told.of("i,n1,n1;>2+00+00+00").go("rule(1)").is("beds(0, 1)", 4).is("beds(1, 1)", 2).is("beds(2, 1)", 1);
    }

    static void block2_whoIsPassedMayTakeABed() {
        Told.of("i,n0,n1;>2+00+01").is("beds(1, 1)", 1).is("beds(2, 1)", 2)
                .go("rule(1)").is("beds(1, 1)", 2).is("beds(2, 1)", 1);
    }

    static void block2_firstInnDownTheWind() {
        Told.of("i,n1,n0;<2+01").is("where(0, 1)", 0);
        Told.of("i,n1,n0;>2+01").is("where(0, 1)", 2);
        Told.of("i,n0,n1;>2+00").is("where(0, 1)", 1);
        Told.of("i,n0,n1;<2+00").is("where(0, 1)", 2);
    }

    static void block2_lastInnPassesToTheRoad() {
        Told.of("i,n0,n0,n0,n0,n0,n0;>2+00").is("where(0, 1)", 6).is("beds(6, 1)", 1);
        Told.of("i,n0,n0,n0,n0,n0,n0;<2+05").is("where(0, 1)", 6).is("beds(6, 1)", 1);
    }

    static void block2_nobodyIsPassedUpTheWind() {
        Told.of("i,n9,n0;>2+01").is("where(0, 1)", 2);
        Told.of("i,n0,n9;<2+00").is("where(0, 1)", 2);
    }

    // ---- 2 A NIGHT: who was on the road

    static void block2_cameByTheLastInn() {
        Told.of("i,n0,n0;>2>5+00").row("where(0, #)", 0, 2, 1);
        Told.of("i,n0,n0;>2<5+00").row("where(0, #)", 0, 2, 1);
    }

    static void block2_cameByTheFirstInn() {
        Told.of("i,n0,n0;<2>5+01").row("where(0, #)", 1, 2, 0);
        Told.of("i,n0,n0;<2<5+01").row("where(0, #)", 1, 2, 0);
    }

    static void block2_cameByTheInnOfTheLatestNight() {
        Told.of("i,n0,n0;>2<2>5+00").row("where(0, #)", 0, 2, 2, 0);
        Told.of("i,n0,n0;<2>2<5+01").row("where(0, #)", 1, 2, 2, 1);
    }

    static void block2_fromTheRoadPastAllInns() {
        Told.of("i,n1,n0,n0;>2<2+01").row("where(0, #)", 1, 3, 0);
        Told.of("i,n0,n0,n1;<2>2+01").row("where(0, #)", 1, 3, 2);
    }

    static void block2_fromTheRoadTakesABed() {
        // Guest 0 comes back by INN 0, is passed on, and is of the lesser number at INN 1.
        Told.of("i,n0,n1,n9;<2>2+00+01").row("where(0, #)", 0, 3, 1).row("where(1, #)", 1, 1, 2);
    }

    static void block2_fromTheRoadTakesNoBedByRuleOne() {
        Told.of("i,n0,n1,n9;<2>2+00+01").go("rule(1)").row("where(0, #)", 0, 3, 2).row("where(1, #)", 1, 1, 1);
    }

    static void block2_fromTheRoadAmongThoseWhoAreThere() {
        Told.of("i,n1,n0;<3>1+01+01+01+01").row("beds(0, #)", 0, 6, 2).row("beds(1, #)", 15, 1, 0)
                .row("beds(2, #)", 0, 8, 13);
    }

    static void block2_onTheRoadInAllNights() {
        Told.of(GREATEST).row("beds(6, #)", 0, 254, 254, 254, 254, 254, 254, 254, 254);
    }

    static void block2_behindNoNightsAllAreAsTold() {
        Told.of("i,n0,n0;>5+00+00+01").is("beds(0, 0)", 3).is("beds(1, 0)", 4).is("beds(2, 0)", 0)
                .row("where(#, 0)", 0, 0, 1).is("deep(0, 0)", 0).go("rule(1)").is("beds(0, 0)", 3);
    }

    static void block2_askedAgainBehindAChange() {
        Told told = Told.of("i,n9,n9,n9;>2+00+02").is("beds(0, 0)", 1).is("beds(0, 1)", 1).is("deep(0, 1)", 9);
        told.go("lodge(0, 1)", "sweep(0, true, 9)", "fall(0, 0)").is("beds(0, 0)", 0).is("beds(1, 0)", 1)
                .is("beds(0, 1)", 0).is("beds(1, 1)", 1).is("deep(0, 0)", 0).is("deep(1, 1)", 7);
    }

    static void block2_askedAgainBehindAnotherText() {
        Told told = Told.of("i,n9,n9,n9;>2+00+02").is("beds(2, 0)", 2).is("beds(2, 1)", 2);
        told.ridge("i,n9,n9;>2+01");
        told.is("beds(0, 0)", 0).is("beds(1, 0)", 1).is("beds(2, 0)", 0).is("beds(2, 1)", 0).is("where(0, 1)", 1);
    }

    // ---- promise 11

    static void promise11_noSuchGuest() {
        for (String g : new String[] {"-1", "4", "MIN", "MAX"}) {
            Stand.refuses("where(" + g + ", 0)", UNKNOWN);
        }
        Told.of("i,n9,n9;>2+00+01").is("where(0, 1)", 0).is("where(1, 1)", 1).is("where(2, 1)", UNKNOWN);
    }

    static void promise11_nightsOutside() {
        for (String n : new String[] {"-1", "4", "MIN", "MAX"}) {
            Stand.refuses("where(0, " + n + ")", OUTSIDE);
        }
        Told.of("i,n9,n9;>2>2>2+01").is("where(0, 0)", 1).is("where(0, 3)", 1);
    }

    static void promise11_unknownAheadOfOutside() {
        Stand.refuses("where(4, 4)", UNKNOWN);
        Stand.refuses("where(-1, -1)", UNKNOWN);
    }

    static void promise11_withoutRidge() {
        Stand.bareRefuses("where(0, 0)", UNKNOWN);
        Stand.bareRefuses("where(0, 1)", UNKNOWN);
    }

    static void promise11_theRoadIsAsManyAsInns() {
        Told.of("i,n0,n0;>2+00").is("where(0, 1)", 2);
        Told.of("i,n0,n0,n0,n0,n0,n0;>2+00").is("where(0, 1)", 6);
    }

    static void promise11_lastGuestBehindEightNights() {
        Told.of(GREATEST).is("where(7, 8)", 6).is("where(7, 9)", OUTSIDE).is("where(8, 8)", UNKNOWN)
                .go("rule(1)").is("where(7, 8)", 5);
    }

    // ---- promise 12

    static void promise12_noSuchInn() {
        for (String k : new String[] {"-1", "4", "MIN", "MAX"}) {
            Stand.refuses("deep(" + k + ", 0)", UNKNOWN);
        }
        Told.of("i,n7,n8,n9;>2+00").row("deep(#, 1)", 7, 8, 9, UNKNOWN);
    }

    static void promise12_theRoadHasNoSnow() {
        Stand.refuses("deep(3, 0)", UNKNOWN);
    }

    static void promise12_nightsOutside() {
        for (String n : new String[] {"-1", "4", "MIN", "MAX"}) {
            Stand.refuses("deep(0, " + n + ")", OUTSIDE);
        }
        Told.of("i,n3,n9;>3>3>3+01").is("deep(0, 0)", 3).is("deep(0, 3)", 6);
    }

    static void promise12_unknownAheadOfOutside() {
        Stand.refuses("deep(3, 4)", UNKNOWN);
        Stand.refuses("deep(-1, -1)", UNKNOWN);
    }

    static void promise12_withoutRidge() {
        Stand.bareRefuses("deep(0, 0)", UNKNOWN);
        Stand.bareRefuses("deep(0, 1)", UNKNOWN);
    }

    static void promise12_lastInnBehindEightNights() {
        Told.of(GREATEST).is("deep(5, 8)", 1).is("deep(5, 9)", OUTSIDE).is("deep(6, 8)", UNKNOWN);
    }

    // ---- promise 13

    static void promise13_noSuchInn() {
        for (String k : new String[] {"-1", "4", "MIN", "MAX"}) {
            Stand.refuses("beds(" + k + ", 0)", UNKNOWN);
        }
    }

    static void promise13_theRoadIsAsManyAsInns() {
        Told.of("i,n0,n1;>2+00+00").is("beds(2, 1)", 2).is("beds(3, 1)", UNKNOWN).is("beds(1, 1)", 1);
    }

    static void promise13_nightsOutside() {
        for (String n : new String[] {"-1", "4", "MIN", "MAX"}) {
            Stand.refuses("beds(0, " + n + ")", OUTSIDE);
            Stand.refuses("beds(3, " + n + ")", OUTSIDE);
        }
        Told.of("i,n9,n9;>2>2>2+01").is("beds(1, 0)", 1).is("beds(1, 3)", 1);
    }

    static void promise13_unknownAheadOfOutside() {
        Stand.refuses("beds(4, 4)", UNKNOWN);
        Stand.refuses("beds(-1, -1)", UNKNOWN);
    }

    static void promise13_withoutRidgeNoRoad() {
        Stand.bareRefuses("beds(0, 0)", UNKNOWN);
        Stand.bareRefuses("beds(0, 1)", UNKNOWN);
        Stand.bareRefuses("beds(1, 0)", UNKNOWN);
    }

    static void promise13_nobodyIsTheEmptySet() {
        Told.of("i,n9,n9;>2+01").is("beds(0, 0)", 0).is("beds(0, 1)", 0).is("beds(2, 0)", 0).is("beds(2, 1)", 0);
    }

    static void promise13_eachGuestIsInOneBed() {
        for (int rule = 0; rule < 2; rule++) {
            SnowInns x = Told.of("i,n1,l0,c0,n2;>1<2>4<0+00+00+11+13+23").x;
            x.rule(rule);
            for (int n = 0; n <= 4; n++) {
                int sum = 0;
                int all = 0;
                for (int k = 0; k <= 4; k++) {
                    sum += x.beds(k, n);
                    all |= x.beds(k, n);
                }
                Cases.is("all guests behind " + n, all, 31);
                Cases.is("each once behind " + n, sum, 31);
            }
        }
    }

    static void promise13_roadOfSixInns() {
        Told.of(GREATEST).is("beds(6, 8)", 254).is("beds(7, 8)", UNKNOWN).is("beds(5, 8)", 1).is("beds(6, 9)", OUTSIDE);
    }

    // ---- promise 14

    static void promise14_noSuchSheet() {
        for (String sheet : new String[] {"-1", "4", "MIN", "MAX"}) {
            Stand.refuses("list(0, " + sheet + ", 0, 0, 1)", UNKNOWN);
        }
    }

    static void promise14_laneOutside() {
        for (String lane : new String[] {"-1", "3", "MIN", "MAX"}) {
            Stand.refuses("list(0, 0, " + lane + ", 0, 1)", OUTSIDE);
        }
    }

    static void promise14_withoutRidge() {
        Stand.bareRefuses("list(0, 0, 0, 0, 0)", STATE);
        Stand.bareRefuses("list(0, 0, 0, 0, 1)", STATE);
    }

    static void promise14_nightsOutside() {
        for (String nights : new String[] {"-1", "4", "MIN", "MAX"}) {
            Stand.refuses("list(" + nights + ", 0, 0, 0, 1)", OUTSIDE);
        }
        Told.of("i,n9,n9;>2>2>2+00").go("sheet(0, 0, 1)").is("list(0, 0, 0, 0, 1)", NONE)
                .is("list(3, 0, 0, 0, 1)", NONE).is("list(4, 0, 0, 0, 1)", OUTSIDE);
    }

    static void promise14_castOfEachOtherLane() {
        for (int sheet = 0; sheet < 3; sheet++) {
            for (int lane = 0; lane < 3; lane++) {
                if (lane != sheet) {
                    Stand.faults("list(0, " + sheet + ", " + lane + ", 0, 1)", CAST);
                }
            }
        }
    }

    static void promise14_nothingIsNoCast() {
        for (int lane = 0; lane < 3; lane++) {
            Stand.faults("list(0, 3, " + lane + ", 0, 1)", NULL);
            Stand.faults("list(0, 3, " + lane + ", 0, 0)", NULL);
        }
    }

    static void promise14_sizeBelowZero() {
        Stand.faults("list(0, 0, 0, 0, -1)", SIZE);
        Stand.faults("list(0, 0, 0, 0, MIN)", SIZE);
    }

    static void promise14_indexOfTheFirstCell() {
        for (String i : new String[] {"-1", "5", "6", "MIN", "MAX"}) {
            Stand.faults("list(0, 0, 0, " + i + ", 1)", INDEX);
        }
        Stand.refuses("list(0, 0, 0, 4, 1)", 0);
    }

    static void promise14_indexOfTheLastCell() {
        for (String cells : new String[] {"0, 6", "2, 4", "4, 2", "0, MAX", "5, MAX", "MAX, MAX", "-1, MAX"}) {
            Stand.faults("list(0, 0, 0, " + cells + ")", INDEX);
        }
        Stand.refuses("list(0, 0, 0, 1, 4)", 0);
    }

    static void promise14_indexThoughNoCellIsTaken() {
        for (String i : new String[] {"-1", "6", "MIN", "MAX"}) {
            Stand.faults("list(0, 0, 0, " + i + ", 0)", INDEX);
        }
    }

    static void promise14_noCellIsTaken() {
        Stand.refuses("list(0, 0, 0, 0, 0)", NONE);
        Stand.refuses("list(0, 0, 0, 5, 0)", NONE);
        Told.of("i,n9,n9;>2+00").go("sheet(0, 0, 0)").is("list(0, 0, 0, 0, 0)", NONE).is("list(0, 0, 0, 1, 0)", -13)
                .is("list(0, 0, 0, 0, 1)", -13);
    }

    static void promise14_moreCellsThanGuests() {
        Stand.refuses("list(0, 0, 0, 0, 5)", OUTSIDE);
        Stand.refuses("list(0, 2, 2, 0, 6)", OUTSIDE);
        Told.of("i,n9,n9;>2+00+01").go("sheet(0, 0, 3)", "put(0, 1, 1)").is("list(0, 0, 0, 0, 2)", NONE)
                .is("list(0, 0, 0, 0, 3)", OUTSIDE).is("fault()", 0);
    }

    static void promise14_unknownAheadOfTheRest() {
        Stand.refuses("list(9, 4, 3, -1, -1)", UNKNOWN);
        Stand.refuses("list(MIN, MIN, MIN, MIN, MIN)", UNKNOWN);
        Stand.bareRefuses("list(0, 4, 0, 0, 0)", UNKNOWN);
        Stand.bareRefuses("list(0, -1, 3, 0, 0)", UNKNOWN);
    }

    static void promise14_laneAheadOfState() {
        Stand.bareRefuses("list(0, 0, 3, 0, 0)", OUTSIDE);
        Stand.bareRefuses("list(9, 3, -1, -1, -1)", OUTSIDE);
        Stand.refuses("list(9, 0, 3, -1, -1)", OUTSIDE);
    }

    static void promise14_stateAheadOfNightsAndFaults() {
        Stand.bareRefuses("list(-1, 0, 0, 0, 0)", STATE);
        Stand.bareRefuses("list(1, 0, 0, 0, 0)", STATE);
        Stand.bareRefuses("list(0, 0, 1, 0, 0)", STATE);
        Stand.bareRefuses("list(0, 3, 0, 0, 0)", STATE);
        Stand.bareRefuses("list(0, 0, 0, 0, -1)", STATE);
        Stand.bareRefuses("list(0, 0, 0, 9, 0)", STATE);
    }

    static void promise14_nightsAheadOfFaults() {
        Stand.refuses("list(4, 0, 1, 0, 0)", OUTSIDE);
        Stand.refuses("list(4, 3, 0, 0, 0)", OUTSIDE);
        Stand.refuses("list(-1, 0, 0, 0, -1)", OUTSIDE);
        Stand.refuses("list(-1, 0, 0, 6, 0)", OUTSIDE);
    }

    static void promise14_castAheadOfSizeAndIndex() {
        Stand.faults("list(0, 0, 1, 0, -1)", CAST);
        Stand.faults("list(0, 0, 1, -1, 0)", CAST);
        Stand.faults("list(0, 0, 1, -1, -1)", CAST);
    }

    static void promise14_nullAheadOfSizeAndIndex() {
        Stand.faults("list(0, 3, 1, 0, -1)", NULL);
        Stand.faults("list(0, 3, 1, -1, 0)", NULL);
        Stand.faults("list(0, 3, 1, 0, 9)", NULL);
    }

    static void promise14_sizeAheadOfIndex() {
        Stand.faults("list(0, 0, 0, -1, -1)", SIZE);
        Stand.faults("list(0, 0, 0, 6, -1)", SIZE);
        Stand.faults("list(0, 0, 0, MAX, MIN)", SIZE);
    }

    static void promise14_indexAheadOfMoreThanGuests() {
        Stand.faults("list(0, 0, 0, 1, 5)", INDEX);
        Stand.faults("list(0, 1, 1, 0, 5)", INDEX);
    }

    static void promise14_theFirstWhoIsNotThere() {
        Told told = Told.of("i,n9,n9,n9;>2+00+01+02").go("sheet(1, 1, 4)", "put(1, 2, 1)", "put(1, 3, 2)");
        told.is("list(1, 1, 1, 1, 3)", NONE).go("put(1, 3, 0)").is("list(1, 1, 1, 1, 3)", 2)
                .is("list(1, 1, 1, 1, 2)", NONE).go("put(1, 2, 0)").is("list(1, 1, 1, 1, 3)", 1)
                .go("put(1, 1, 1)").is("list(1, 1, 1, 1, 3)", 0);
    }

    static void promise14_theRoadIsAsManyAsInns() {
        Told.of("i,n0,n0;>2+00").go("sheet(0, 2, 1)", "put(0, 0, 2)").is("list(1, 0, 2, 0, 1)", NONE)
                .go("put(0, 0, 3)").is("list(1, 0, 2, 0, 1)", 0).go("put(0, 0, 1)").is("list(1, 0, 2, 0, 1)", 0);
    }

    static void promise14_cellsFarOutside() {
        Told told = Told.of("i,n9,n9;>2+00").go("sheet(0, 2, 1)");
        for (String v : new String[] {"MIN", "MAX", "-1", "256", "65536"}) {
            told.go("put(0, 0, " + v + ")").is("list(0, 0, 2, 0, 1)", 0).is("fault()", 0);
        }
        told.go("put(0, 0, 0)").is("list(0, 0, 2, 0, 1)", NONE);
    }

    static void promise14_eightGuestsAtTheEndOfSixtyCells() {
        Told told = Told.of("i,n9,n9;>2+01+01+01+01+01+01+01+01").go("sheet(0, 0, 60)");
        for (int i = 52; i < 60; i++) {
            told.go("put(0, " + i + ", 1)");
        }
        told.is("list(1, 0, 0, 52, 8)", NONE).is("list(1, 0, 0, 51, 8)", 0).is("list(1, 0, 0, 53, 8)", -13)
                .is("list(1, 0, 0, 51, 9)", OUTSIDE).go("put(0, 59, 0)").is("list(1, 0, 0, 52, 8)", 7);
    }

    static void promise14_aListChangesNothing() {
        Stand.refuses("list(0, 0, 0, 0, 4)", 0);
        Stand.refuses("list(3, 2, 2, 2, 4)", 0);
    }
}
