/** The edges of promises 15 to 18 and of '3 MEET', each in a case of its own. */
public final class FamiliesEdgesTest {
    private static final int UNKNOWN = SnowInns.UNKNOWN, OUTSIDE = SnowInns.OUTSIDE, STATE = SnowInns.STATE;
    private static final int NONE = SnowInns.NONE;

    public static void main(String[] args) {
        Cases.run(FamiliesEdgesTest.class, 15, 18);
    }

    // ---- 3 MEET

    static void block3_behindNoNightsIsNoMeeting() {
        Told.of("i,n1,n9;>2+00+00").is("meet(0)", NONE);
    }

    static void block3_familyOfOneMeets() {
        Told.of("i,n9,n9;>2+20").is("meet(2)", 0);
    }

    static void block3_familyOfOneOnTheRoad() {
        Told.of("i,n0,n0;>2+20").is("meet(2)", NONE);
    }

    static void block3_allOnTheRoadIsNoMeeting() {
        Told.of("i,n0,n0;>2+00+00").is("beds(2, 1)", 3).is("meet(0)", NONE);
    }

    static void block3_oneOnTheRoadIsNoMeeting() {
        Told.of("i,n0,n1;>2+01+01").is("beds(1, 1)", 1).is("beds(2, 1)", 2).is("meet(0)", NONE);
    }

    static void block3_othersInTheInnDoNotMatter() {
        Told.of("i,n9,n9;>2+00+10+00+30").is("meet(0)", 0).is("meet(1)", 0).is("meet(3)", 0);
    }

    static void block3_eightOfOneFamily() {
        Told.of("i,n8,n9;>2+00+00+00+00+00+00+00+00").is("meet(0)", 0);
        Told.of("i,n7,n9;>2+00+00+00+00+00+00+00+00").is("meet(0)", NONE);
    }

    // ---- 3 LEAST

    private static void leastIs(String text, int n, int inches, int from, int to) {
        SnowInns x = Told.of(text).x;
        String before = Stand.seen(x);
        Told.of(text).row("least(" + n + ", #)", inches, from, to);
        Cases.is(text + ": least(" + n + ", 0)", x.least(n, 0), inches);
        Cases.same(text + ": least sweeps nothing", Stand.seen(x), before);
    }

    static void block3_leastWhereNobodyIsOnTheRoadAnyhow() {
        leastIs("i,n9,n9;>2+00", 1, 0, NONE, NONE);
        leastIs("i,n0,n1;>2+00", 1, 0, NONE, NONE);
    }

    static void block3_leastOfNoNights() {
        leastIs("i,n0,n0;>2+00", 0, 0, NONE, NONE);
    }

    static void block3_leastByNoSweep() {
        leastIs("i,n0,n0;>2+00", 1, NONE, NONE, NONE);
        leastIs("i,n9,n9,n0;>2+02+02+02+02+02+02+02+02", 1, 8, 1, 2);
        leastIs("i,n9,n7,n0;>2+02+02+02+02+02+02+02+02", 1, NONE, NONE, NONE);
    }

    static void block3_leastOfOneInch() {
        leastIs("i,n9,n0;>2+01", 1, 1, 0, 1);
        leastIs("i,n0,n9;<2+00", 1, 1, 1, 0);
    }

    static void block3_leastOfNineInches() {
        leastIs("i,n9,n0;>0>0>0>0+01", 4, 9, 0, 1);
        leastIs("i,n0,n9;<0<0<0<0+00", 4, 9, 1, 0);
    }

    static void block3_leastNoMoreThanThereAre() {
        leastIs("i,n2,n0;>2+01+01", 1, 2, 0, 1);
        leastIs("i,n1,n0;>2+01+01", 1, NONE, NONE, NONE);
    }

    static void block3_leastThoughAllIsLostThere() {
        // INN 1 has 9 already: what helps is that INN 0 has less, so that guests pass on in time.
        leastIs("i,n2,n9;>2<0+00+00", 2, 2, 0, 1);
    }

    static void block3_leastOfNineInchesThatAreAllLost() {
        leastIs("i,n9,l9;>2<0<0<0<0<0+00", 6, 9, 0, 1);
        leastIs("i,n9,l9;>2<0<0<0<0<0+00", 5, 0, NONE, NONE);
    }

    static void block3_leastNeverBeyondTheRidge() {
        leastIs("i,n0,n0,n0,n0,n0,n1;>2+00+00+00", 1, NONE, NONE, NONE);
        leastIs("i,n1,n0,n0,n0,n0,n0;<2+05+05+05", 1, NONE, NONE, NONE);
    }

    static void block3_leastNineAtMostThere() {
        // 7 there and 3 more are 9, not 10: 9 less 8 by four nights keep one guest, not two.
        leastIs("i,n3,n7;>0>0>0>0+01+01", 4, NONE, NONE, NONE);
        leastIs("i,n3,n7;>0>0>0>0+01", 4, 2, 0, 1);
    }

    static void block3_leastOfTheLeastInnFromWhich() {
        leastIs("i,n1,c0,n1;>2+01+01+01+01", 1, 1, 0, 1);
    }

    static void block3_leastOfTheLeastInnToWhich() {
        leastIs("i,c0,n1,c0;>2+00+00+00+00+00+00", 1, 1, 1, 0);
    }

    static void block3_leastInchesAheadOfTheLeastInn() {
        // Two from INN 0 to INN 1 would do as well, but one from INN 2 to INN 3 is fewer.
        leastIs("i,n4,n2,n1,c2;>0+01+01+01+01", 1, 1, 2, 3);
    }

    static void block3_leastToTheInnBesideAlone() {
        leastIs("i,n9,n0,n0;>2+02", 1, NONE, NONE, NONE);
        leastIs("i,n0,n9,n0;>2+02", 1, 1, 1, 2);
    }

    static void block3_leastOfTheseNightsAlone() {
        // INN 0 has 1 INCH behind night 4, none behind night 5: then its guest is on the road.
        Told.of("i,n9,n9;>2<0<0<0<0<0+00").row("least(#, 0)", 0, 0, 0, 0, 0, 0, NONE);
        leastIs("i,n1,n2;>2>1>2+00+00+00", 1, 0, NONE, NONE);
        leastIs("i,n1,n2;>2>1>2+00+00+00", 2, NONE, NONE, NONE);
    }

    static void block3_leastInAnyNightOfThem() {
        // Somebody is on the road in the first night, nobody in the second one: that is not enough.
        leastIs("i,n0,n0;>2>5+00", 2, NONE, NONE, NONE);
    }

    static void block3_leastOfSixInnsAndEightNights() {
        leastIs("i,n0,n0,n0,n0,n9,n0;>2>2>2>2>2>2>2>2+05+05+05+05+05+05+05+05", 8, 8, 4, 5);
        leastIs("i,n0,n9,n0,n0,n0,n0;<2<2<2<2<2<2<2<2+00+00+00+00+00+00+00+00", 8, 8, 1, 0);
    }

    // ---- 3 TURN

    static void block3_turnOfAFamilyThatMeetsAsItIs() {
        Told.of("i,n1,n1;>2>2+00").is("turn(0, 1)", NONE).is("turn(0, 2)", NONE);
    }

    static void block3_turnThoughItMeetsBehindTheseNights() {
        Told.of("i,n1,n0;>2<2+01").is("turn(0, 1)", 0).is("turn(0, 2)", NONE);
    }

    static void block3_turnByNone() {
        Told.of("i,n0,n0;>2>2+00").is("turn(0, 1)", NONE).is("turn(0, 2)", NONE);
    }

    static void block3_turnByNoneOfEightNights() {
        Told.of("i,n0,n0;>2>2>2>2>2>2>2>2+00").is("turn(0, 8)", NONE).is("turn(0, 7)", NONE).is("turn(0, 9)", OUTSIDE);
    }

    static void block3_turnOfNoNights() {
        Told.of("i,n1,n0;>2+01").is("turn(0, 0)", NONE).is("turn(0, 1)", 0);
    }

    static void block3_turnTheFirstOfSeveral() {
        Told.of("i,n1,n0;>2>2>2+01").is("turn(0, 3)", 0).is("turn(0, 1)", 0);
    }

    static void block3_turnOfTheseNightsAlone() {
        Told.of("i,c0,n1;>2>0+00+01").is("turn(0, 1)", NONE).is("turn(0, 2)", 1);
    }

    static void block3_turnTheLastOfEightNights() {
        Told.of("i,c0,n1;>2>2>2>2>2>2>2>0+00+01").is("turn(0, 7)", NONE).is("turn(0, 8)", 7);
    }

    static void block3_turnBothWays() {
        Told.of("i,n1,n0;>2+01").is("turn(0, 1)", 0);
        Told.of("i,n0,n1;<2+00").is("turn(0, 1)", 0);
    }

    static void block3_turnOneNightAlone() {
        // They meet at INN 1 only if both winds are the other ones.
        String text = "i,n0,c0,n2;<2>0+00+02";
        Told.of(text).is("turn(0, 2)", NONE);
        Told.of(text).go("gust(0, false)").is("turn(0, 2)", 1);
        Told.of(text).go("gust(1, true)").is("turn(0, 2)", 0);
        Told.of(text).go("gust(0, false)", "gust(1, true)").is("meet(0)", 1).is("turn(0, 2)", NONE);
    }

    // ---- 3 CORKS

    static void block3_corksWhereNobodyIsOnTheRoad() {
        Told.of("i,n1,n0;>2+00").is("corks(0)", 0);
    }

    static void block3_corksAreAllInnsPassed() {
        Told.of("i,n0,n0;>2+00").is("corks(0)", 3);
        Told.of("i,n0,n0,n0,n0,n0,n0;<2+05").is("corks(0)", 63);
    }

    static void block3_corksDownTheWindAlone() {
        Told.of("i,n0,n0,n0;>2+01").is("corks(0)", 6);
        Told.of("i,n0,n0,n0;<2+01").is("corks(0)", 3);
    }

    static void block3_corksKeepOneMoreInAllNights() {
        // INN 1 must have kept the guest in night 0 to keep them in night 1.
        Told.of("i,n1,n0;<2<0+01").is("corks(0)", 0).is("corks(1)", 3);
    }

    static void block3_corksKeepOneMoreNotTwo() {
        // One more at INN 0 keeps another guest in night 0, and passes that one to the road in night 1.
        Told.of("i,n2,c1;>1<0+00+00").is("beds(2, 2)", 1).is("corks(1)", 0);
    }

    static void block3_corksOfTheNightItself() {
        Told.of("i,n0,n0;>2>5+00").is("corks(0)", 3).is("corks(1)", 0);
    }

    static void block3_corksFewerThoughNotNobody() {
        Told.of("i,n0,n0;>2+00+00+00+00+00+00+00+00").is("corks(0)", 3).is("beds(2, 1)", 255);
    }

    static void block3_corksOfKinds() {
        // One more than a CASTLE keeps, not one INCH more.
        Told.of("i,c0,n0;>2+00+00+00").is("corks(0)", 3).is("ofInn(0, 2)", 2);
    }

    static void block3_corksOfTheLastOfEightNights() {
        Told.of("i,n1,n0;>2>2>2>2>2>2>2>1+00").row("corks(#)", 0, 0, 0, 0, 0, 0, 0, 3, OUTSIDE);
    }

    // ---- promise 15

    static void promise15_noSuchFamily() {
        for (String f : new String[] {"-1", "4", "MIN", "MAX"}) {
            Stand.refuses("meet(" + f + ")", UNKNOWN);
        }
        Told.of("i,n9,n9;>2+00+30").is("meet(0)", 0).is("meet(3)", 0);
    }

    static void promise15_nobodyOfTheFamily() {
        Stand.refuses("meet(2)", UNKNOWN);
    }

    static void promise15_withoutRidge() {
        for (String f : new String[] {"0", "3", "-1", "4"}) {
            Stand.bareRefuses("meet(" + f + ")", UNKNOWN);
        }
    }

    static void promise15_firstNightOfSeveral() {
        Told.of("i,n2,n9;>2>2>2+00+00").is("meet(0)", 0);
        Told.of("i,n2,n9;>1>1>1+00+00").is("meet(0)", 1);
    }

    static void promise15_lastOfEightNights() {
        Told.of("i,n8,c0;>1>1>1>1>1>1>1>1+00+01").is("meet(0)", 7);
        Told.of("i,n9,c0;>1>1>1>1>1>1>1>1+00+01").is("meet(0)", NONE);
    }

    static void promise15_inNone() {
        Told.of("i,n9,n9;>2+00+01").is("meet(0)", NONE);
    }

    // ---- promise 16

    static void promise16_nightsOutside() {
        for (String n : new String[] {"-1", "4", "MIN", "MAX"}) {
            Stand.refuses("least(" + n + ", 0)", OUTSIDE);
        }
        Told.of("i,n9,n9;>2>2>2+00").is("least(0, 0)", 0).is("least(3, 0)", 0).is("least(4, 0)", OUTSIDE);
    }

    static void promise16_whatOutside() {
        for (String what : new String[] {"-1", "3", "MIN", "MAX"}) {
            Stand.refuses("least(0, " + what + ")", OUTSIDE);
        }
        Told.of("i,n9,n0;>2+01").row("least(1, #)", 1, 0, 1, OUTSIDE);
    }

    static void promise16_withoutRidge() {
        Stand.bareRefuses("least(0, 0)", STATE);
        Stand.bareRefuses("least(0, 2)", STATE);
    }

    static void promise16_outsideAheadOfState() {
        for (String n : new String[] {"-1", "1", "MIN", "MAX"}) {
            Stand.bareRefuses("least(" + n + ", 0)", OUTSIDE);
        }
        for (String what : new String[] {"-1", "3", "MIN", "MAX"}) {
            Stand.bareRefuses("least(0, " + what + ")", OUTSIDE);
        }
        Stand.bareRefuses("least(1, 3)", OUTSIDE);
    }

    // ---- promise 17

    static void promise17_noSuchFamily() {
        for (String f : new String[] {"-1", "2", "4", "MIN", "MAX"}) {
            Stand.refuses("turn(" + f + ", 0)", UNKNOWN);
        }
    }

    static void promise17_nightsOutside() {
        for (String n : new String[] {"-1", "4", "MIN", "MAX"}) {
            Stand.refuses("turn(0, " + n + ")", OUTSIDE);
            Stand.refuses("turn(3, " + n + ")", OUTSIDE);
        }
        Told.of("i,n0,n0;>2>2>2+00").row("turn(0, #)", NONE, NONE, NONE, NONE, OUTSIDE);
    }

    static void promise17_unknownAheadOfOutside() {
        Stand.refuses("turn(2, 4)", UNKNOWN);
        Stand.refuses("turn(-1, -1)", UNKNOWN);
    }

    static void promise17_withoutRidge() {
        Stand.bareRefuses("turn(0, 0)", UNKNOWN);
        Stand.bareRefuses("turn(0, 1)", UNKNOWN);
    }

    static void promise17_turnsNothing() {
        SnowInns x = Told.of("i,n1,n0;>2<0>2+01+11").x;
        SnowInns untouched = Told.of("i,n1,n0;>2<0>2+01+11").x;
        for (int n = 0; n <= 3; n++) {
            x.turn(0, n);
            x.turn(1, n);
        }
        Cases.same("turned", Stand.seen(x), Stand.seen(untouched));
    }

    // ---- promise 18

    static void promise18_noSuchNight() {
        for (String night : new String[] {"-1", "3", "MIN", "MAX"}) {
            Stand.refuses("corks(" + night + ")", OUTSIDE);
        }
        Told.of("i,n0,n0;>2>2>2+01").row("corks(#)", 2, 2, 2, OUTSIDE);
    }

    static void promise18_stateAheadOfOutside() {
        for (String night : new String[] {"0", "-1", "MIN", "MAX"}) {
            Stand.bareRefuses("corks(" + night + ")", STATE);
        }
    }

    static void promise18_corksNothing() {
        SnowInns x = Told.of("i,n1,n0;>1<0>2+01+11").x;
        SnowInns untouched = Told.of("i,n1,n0;>1<0>2+01+11").x;
        for (int night = 0; night < 3; night++) {
            x.corks(night);
        }
        Cases.same("corked", Stand.seen(x), Stand.seen(untouched));
    }
}
